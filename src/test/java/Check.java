import java.nio.charset.StandardCharsets;
import java.util.List;
import java.util.function.Consumer;
import java.util.function.ToIntFunction;

/** What the tests share: answers compared with those that are due, and texts fed. */
final class Check {
    private static final int LINES_MOST = 60;
    private int wrong;
    private int asked;

    void due(String call, long got, long want) {
        asked++;
        if (got != want) {
            wrong++;
            if (wrong <= LINES_MOST) {
                System.out.println(call + " answered " + got + ", due is " + want);
            }
        }
    }

    void due(String call, boolean got, boolean want) {
        due(call, got ? 1 : 0, want ? 1 : 0);
    }

    int wrong() {
        return wrong;
    }

    void end(String test) {
        System.out.println(test + ": " + asked + " answers, " + wrong + " wrong");
        if (wrong != 0 || asked == 0) {
            System.exit(1);
        }
    }

    /** The bytes of the text, blanks up to a full feed, and these blanks taken back. */
    static void feed(PaletteHouse house, String text) {
        byte[] bytes = text.getBytes(StandardCharsets.ISO_8859_1);
        int full = (bytes.length + 19) / 20 * 20;
        byte[] padded = new byte[full];
        java.util.Arrays.fill(padded, (byte) 32);
        System.arraycopy(bytes, 0, padded, 0, bytes.length);
        for (int i = 0; i < full; i += 20) {
            house.feed(four(padded, i), four(padded, i + 4), four(padded, i + 8), four(padded, i + 12),
                four(padded, i + 16));
        }
        house.back(full - bytes.length);
    }

    private static int four(byte[] bytes, int i) {
        return (bytes[i] & 255) << 24 | (bytes[i + 1] & 255) << 16 | (bytes[i + 2] & 255) << 8 | bytes[i + 3] & 255;
    }

    static PaletteHouse houseOf(String text) {
        PaletteHouse house = new PaletteHouse();
        feed(house, text);
        house.read();
        return house;
    }

    /** Reads the text without its @, which stands where the fault is due; without one there is none. */
    void fault(int number, String marked) {
        int place = marked.indexOf('@');
        String text = marked.replace("@", "");
        String shown = marked.length() <= 100 ? marked
            : marked.substring(0, 30) + " .. " + marked.substring(marked.length() - 50);
        PaletteHouse house = new PaletteHouse();
        feed(house, text);
        due("fed " + shown, house.count(12), text.length());
        due("read of " + shown, house.read(), number);
        due("place in " + shown, house.place(), place);
        due("the tape behind " + shown, house.count(12), 0);
    }

    /** So many parts, one behind the other, with their numbers in place of #. */
    static String many(String part, int n) {
        StringBuilder s = new StringBuilder();
        for (int i = 0; i < n; i++) {
            s.append(part.replace("#", String.valueOf(i)));
        }
        return s.toString();
    }

    /** A call that changes nothing: behind it an object answers all as its twin does, which had no such call. */
    void refused(String name, Consumer<PaletteHouse> state, ToIntFunction<PaletteHouse> call, int want) {
        PaletteHouse touched = new PaletteHouse();
        state.accept(touched);
        PaletteHouse twin = new PaletteHouse();
        state.accept(twin);
        due(name, call.applyAsInt(touched), want);
        same(name, Look.at(touched), Look.at(twin));
    }

    void same(String name, List<String> got, List<String> want) {
        asked++;
        for (int n = 0; n < Math.max(got.size(), want.size()); n++) {
            String here = n < got.size() ? got.get(n) : "nothing";
            String there = n < want.size() ? want.get(n) : "nothing";
            if (!here.equals(there)) {
                due(name + ", then " + here + " and not " + there, false, true);
                return;
            }
        }
    }

    /** A text of which every word is due to be at hand: read must tell 0. */
    PaletteHouse good(String text) {
        PaletteHouse house = new PaletteHouse();
        feed(house, text);
        due("read of " + text, house.read(), 0);
        return house;
    }
}
