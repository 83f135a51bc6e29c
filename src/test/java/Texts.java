import java.nio.charset.StandardCharsets;

/** Puts texts on the tape of an object, twenty bytes a call. */
final class Texts {
    private Texts() {
    }

    static int[] numbers(byte[] bytes, int from) {
        int[] five = new int[5];
        for (int i = 0; i < 20; i++) {
            int b = from + i < bytes.length ? bytes[from + i] & 255 : ' ';
            five[i / 4] = five[i / 4] << 8 | b;
        }
        return five;
    }

    static void tape(ElderTurn x, byte[] bytes) {
        for (int from = 0; from < bytes.length; from += 20) {
            int[] n = numbers(bytes, from);
            x.feed(n[0], n[1], n[2], n[3], n[4]);
        }
    }

    static int family(ElderTurn x, String text) {
        byte[] bytes = text.getBytes(StandardCharsets.ISO_8859_1);
        tape(x, bytes);
        return x.family(bytes.length);
    }

    static ElderTurn of(String text) {
        ElderTurn x = new ElderTurn();
        if (family(x, text) < 0) {
            throw new IllegalArgumentException("fault " + x.fault() + " at " + x.where() + ": " + text);
        }
        return x;
    }
}
