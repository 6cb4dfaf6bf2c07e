import java.nio.charset.StandardCharsets;

/** What the tests share: answers compared with those that are due, and texts fed. */
final class Check {
    private static final int LINES_MOST = 60;
    private int wrong;
    private int asked;

    void due(String call, long got, long want) {
        asked++;
        if (got != want) {
            wrong++;
            if (wrong <= LINES_MOST) {
                System.out.println(call + " answered " + got + ", due is " + want);
            }
        }
    }

    void due(String call, boolean got, boolean want) {
        due(call, got ? 1 : 0, want ? 1 : 0);
    }

    int wrong() {
        return wrong;
    }

    void end(String test) {
        System.out.println(test + ": " + asked + " answers, " + wrong + " wrong");
        if (wrong != 0 || asked == 0) {
            System.exit(1);
        }
    }

    /** The bytes of the text, blanks up to a full feed, and these blanks taken back. */
    static void feed(PaletteHouse house, String text) {
        byte[] bytes = text.getBytes(StandardCharsets.ISO_8859_1);
        int full = (bytes.length + 19) / 20 * 20;
        byte[] padded = new byte[full];
        java.util.Arrays.fill(padded, (byte) 32);
        System.arraycopy(bytes, 0, padded, 0, bytes.length);
        for (int i = 0; i < full; i += 20) {
            house.feed(four(padded, i), four(padded, i + 4), four(padded, i + 8), four(padded, i + 12),
                four(padded, i + 16));
        }
        house.back(full - bytes.length);
    }

    private static int four(byte[] bytes, int i) {
        return (bytes[i] & 255) << 24 | (bytes[i + 1] & 255) << 16 | (bytes[i + 2] & 255) << 8 | bytes[i + 3] & 255;
    }

    static PaletteHouse houseOf(String text) {
        PaletteHouse house = new PaletteHouse();
        feed(house, text);
        house.read();
        return house;
    }

    /** A text of which every word is due to be at hand: read must tell 0. */
    PaletteHouse good(String text) {
        PaletteHouse house = new PaletteHouse();
        feed(house, text);
        due("read of " + text, house.read(), 0);
        return house;
    }
}
