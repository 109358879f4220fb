import java.nio.charset.StandardCharsets;

/** What the project's tests share: telling a wrong answer, and putting a text on the TAPE. */
final class Check {
    private static int wrong = 0;
    private static int asked = 0;

    private Check() {
    }

    static void due(String call, long got, long want) {
        asked++;
        if (got != want) {
            wrong++;
            System.out.println(call + " answered " + got + ", due is " + want);
        }
    }

    static void due(String call, boolean got, boolean want) {
        due(call, got ? 1 : 0, want ? 1 : 0);
    }

    static boolean isClean() {
        return wrong == 0;
    }

    static void finish() {
        System.out.println(wrong == 0 ? asked + " answers are as due" : wrong + " answers are not as due");
        if (wrong != 0) {
            System.exit(1);
        }
    }

    static void tape(GreyBoxes x, String text) {
        byte[] bytes = text.getBytes(StandardCharsets.ISO_8859_1);
        x.end(0);
        for (int i = 0; i < bytes.length; i += 20) {
            x.feed(word(bytes, i), word(bytes, i + 4), word(bytes, i + 8), word(bytes, i + 12), word(bytes, i + 16));
        }
        x.end(bytes.length);
    }

    static int word(byte[] bytes, int at) {
        int word = 0;
        for (int i = at; i < at + 4; i++) {
            word = word << 8 | (i < bytes.length ? bytes[i] & 255 : 0);
        }
        return word;
    }

    static int hill(GreyBoxes x, String text) {
        tape(x, text);
        return x.hill();
    }

    static int rules(GreyBoxes x, String text) {
        tape(x, text);
        return x.rules();
    }

    /** A box line with ranges of one number each, but for the zero. */
    static String box(String name, String quantity, String zero, int off) {
        return "box " + name + " " + quantity + " zero " + zero + " slope 10 to 10 lag 0 to 0 tire 0 to 0 off " + off + ";";
    }
}
