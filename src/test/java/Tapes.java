/** Puts bytes and texts on a TAPE. */
final class Tapes {
    private Tapes() {
    }

    /** Adds the bytes to the TAPE, which must have room for as many twenties as they need. */
    static void put(FiddlerDebts x, int... bytes) {
        int before = x.count(7);
        for (int at = 0; at < bytes.length; at += 20) {
            x.feed(four(bytes, at), four(bytes, at + 4), four(bytes, at + 8), four(bytes, at + 12), four(bytes, at + 16));
        }
        x.end(before + bytes.length);
    }

    static void put(FiddlerDebts x, String text) {
        put(x, bytesOf(text));
    }

    static int[] bytesOf(String text) {
        int[] bytes = new int[text.length()];
        for (int i = 0; i < bytes.length; i++) {
            bytes[i] = text.charAt(i);
        }
        return bytes;
    }

    static int four(int[] bytes, int at) {
        int number = 0;
        for (int i = at; i < at + 4; i++) {
            number = number << 8 | (i < bytes.length ? bytes[i] & 255 : 0);
        }
        return number;
    }

    /** Puts down a LAW: what law() answers. */
    static int law(FiddlerDebts x, String text) {
        put(x, text);
        return x.law();
    }
}
