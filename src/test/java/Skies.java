/** Tells skies as texts. */
final class Skies {
    private Skies() {
    }

    /** A new object with a sky. */
    static LastCloud under(String text) {
        LastCloud x = new LastCloud();
        int lines = tell(x, text);
        if (lines < 0) {
            throw new IllegalStateException("fault " + x.fault(0) + " at " + x.fault(1) + " of: " + text);
        }
        return x;
    }

    /** Feeds a text behind an empty tape and makes it the sky: what sky() answers. */
    static int tell(LastCloud x, String text) {
        feed(x, text);
        return x.sky();
    }

    static void feed(LastCloud x, String text) {
        int size = x.count(7);
        for (int i = 0; i < text.length(); i += 20) {
            int[] numbers = new int[5];
            for (int j = 0; j < 20; j++) {
                int sign = i + j < text.length() ? text.charAt(i + j) : 0;
                numbers[j / 4] = numbers[j / 4] << 8 | sign;
            }
            if (x.feed(numbers[0], numbers[1], numbers[2], numbers[3], numbers[4]) < 0) {
                throw new IllegalStateException("the tape is full");
            }
        }
        x.end(size + text.length());
    }
}
