import java.nio.charset.StandardCharsets;

/** What the tests share: answers that are due, and texts fed to an object. */
final class Due {
    private static int asked = 0;
    private static int wrong = 0;

    private Due() {
    }

    static void is(String what, long got, long want) {
        asked++;
        if (got != want) {
            wrong++;
            System.out.println(what + " answered " + got + ", due is " + want);
        }
    }

    static void holds(String what, boolean right) {
        is(what, right ? 1 : 0, 1);
    }

    /** Exit code 1 if an answer was not the one that is due. */
    static void close() {
        System.out.println(asked + " answers, " + wrong + " wrong");
        if (wrong != 0 || asked == 0) {
            System.exit(1);
        }
    }

    /** The five numbers of each feed() that put a text (cut to 20 bytes each, the last one filled with blanks). */
    static int[][] feeds(String text) {
        byte[] bytes = text.getBytes(StandardCharsets.ISO_8859_1);
        int[][] feeds = new int[(bytes.length + 19) / 20][5];
        for (int i = 0; i < feeds.length * 20; i++) {
            int sign = i < bytes.length ? bytes[i] & 255 : 32;
            feeds[i / 20][i % 20 / 4] |= sign << 24 - i % 4 * 8;
        }
        return feeds;
    }

    /** The text alone is on the tape, to its very last byte. */
    static void tape(ObligingPosts x, String text) {
        x.end(0);
        for (int[] f : feeds(text)) {
            x.feed(f[0], f[1], f[2], f[3], f[4]);
        }
        x.end(text.length());
    }

    /** A new object with a HEATH; the text must be without FAULT. */
    static ObligingPosts heath(String text) {
        ObligingPosts x = new ObligingPosts();
        tape(x, text);
        int lines = x.heath();
        int signs = (int) text.chars().filter(c -> c == ';').count();
        is("heath() of: " + text, lines, signs);
        return x;
    }
}
