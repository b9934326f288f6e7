import java.nio.charset.StandardCharsets;

/** Counts the answers of one test that are not as due, and tells each of them. */
final class Dues {
    private final String test;
    private int asked;
    private int wrong;

    Dues(String test) {
        this.test = test;
    }

    void due(String call, long got, long want) {
        asked++;
        if (got != want) {
            wrong++;
            System.out.println(test + ": " + call + " answered " + got + ", due is " + want);
        }
    }

    void due(String call, boolean got, boolean want) {
        due(call, got ? 1 : 0, want ? 1 : 0);
    }

    boolean allRight() {
        return wrong == 0;
    }

    void end() {
        System.out.println(test + ": " + asked + " answers, " + wrong + " not as due");
        if (wrong != 0) {
            System.exit(1);
        }
    }

    /** Puts bytes behind the tape, twenty a call, the last call filled up with blanks. */
    static void feedBytes(ToyHouse house, byte[] bytes) {
        for (int start = 0; start < bytes.length; start += 20) {
            int[] five = fiveInts(bytes, start);
            house.feed(five[0], five[1], five[2], five[3], five[4]);
        }
    }

    static int[] fiveInts(byte[] bytes, int start) {
        int[] five = new int[5];
        for (int i = 0; i < 20; i++) {
            int one = start + i < bytes.length ? bytes[start + i] & 255 : 32;
            five[i / 4] = five[i / 4] << 8 | one;
        }
        return five;
    }

    static byte[] bytesOf(String text) {
        return text.getBytes(StandardCharsets.ISO_8859_1);
    }

    static int rules(ToyHouse house, String text) {
        feedBytes(house, bytesOf(text));
        return house.rules(text.length());
    }

    /** A toy comes back with so many pieces of the sorts 0, 1, .. and none of those that are not told. */
    static int back(ToyHouse house, int t, int... pieces) {
        byte[] told = new byte[20];
        for (int i = 0; i < pieces.length; i++) {
            told[i] = (byte) pieces[i];
        }
        feedBytes(house, told);
        return house.back(t);
    }

    static int check(ToyHouse house, int t, int n, int... numbers) {
        for (int start = 0; start < numbers.length; start += 5) {
            int[] five = java.util.Arrays.copyOf(java.util.Arrays.copyOfRange(numbers, start, start + 5), 5);
            house.feed(five[0], five[1], five[2], five[3], five[4]);
        }
        return house.check(t, n);
    }
}
