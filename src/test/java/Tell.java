import java.nio.charset.StandardCharsets;

/** How the tests put a text on the tape. */
final class Tell {
    private Tell() { }

    /** Feeds a text behind what is on the tape, blanks behind it cut off. */
    static void feed(OnePassport x, String text) {
        feed(x, text.getBytes(StandardCharsets.ISO_8859_1));
    }

    static void feed(OnePassport x, byte[] bytes) {
        int at = x.count(8);
        for (int i = 0; i < bytes.length; i += 20) {
            int[] w = new int[5];
            for (int j = 0; j < 20; j++) {
                w[j / 4] = w[j / 4] << 8 | (i + j < bytes.length ? bytes[i + j] & 255 : 32);
            }
            x.feed(w[0], w[1], w[2], w[3], w[4]);
        }
        x.end(at + bytes.length);
    }

    static int family(OnePassport x, String text) {
        feed(x, text);
        return x.family();
    }

    static OnePassport told(String text) {
        OnePassport x = new OnePassport();
        if (family(x, text) < 0) {
            throw new IllegalStateException("fault " + x.fault(0) + " at " + x.fault(1) + " of " + text);
        }
        return x;
    }

    /** Lays a row of numbers of two bytes. */
    static void lay(OnePassport x, int slot, int... numbers) {
        x.row(slot, 1, numbers.length);
        for (int i = 0; i < numbers.length; i++) {
            x.write(slot, i, numbers[i]);
        }
    }
}
