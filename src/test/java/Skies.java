/** Tells skies as texts. */
final class Skies {
    private Skies() {
    }

    /** A new object with a sky. */
    static LastCloud under(String text) {
        LastCloud x = new LastCloud();
        int lines = tell(x, text);
        if (lines < 0) {
            throw new IllegalStateException("fault " + x.fault(0) + " at " + x.fault(1) + " of: " + text);
        }
        return x;
    }

    /** Feeds a text behind an empty tape and makes it the sky: what sky() answers. */
    static int tell(LastCloud x, String text) {
        feed(x, text);
        return x.sky();
    }

    static void feed(LastCloud x, String text) {
        int size = x.count(7);
        for (int i = 0; i < text.length(); i += 20) {
            int[] numbers = new int[5];
            for (int j = 0; j < 20; j++) {
                int sign = i + j < text.length() ? text.charAt(i + j) : 0;
                numbers[j / 4] = numbers[j / 4] << 8 | sign;
            }
            if (x.feed(numbers[0], numbers[1], numbers[2], numbers[3], numbers[4]) < 0) {
                throw new IllegalStateException("the tape is full");
            }
        }
        x.end(size + text.length());
    }

    /** A text that must have a fault at a place. */
    static void fault(Due d, String text, int fault, int place) {
        LastCloud x = new LastCloud();
        d.due("sky() of '" + text + "'", tell(x, text), -4);
        d.due("fault of '" + text + "'", x.fault(0), fault);
        d.due("its place of '" + text + "'", x.fault(1), place);
    }

    /** A text that must be a sky. */
    static void fits(Due d, String text) {
        LastCloud x = new LastCloud();
        int lines = tell(x, text);
        d.due("fault of '" + text + "' at " + x.fault(1), x.fault(0), 0);
        d.due("lines of '" + text + "'", lines >= 0 ? 1 : 0, 1);
    }

    /** A number between two parts of a text: its bounds fit, what is beyond them is a fault at its first byte. */
    static void bounds(Due d, String ahead, int least, int greatest, String behind) {
        fits(d, ahead + least + behind);
        fits(d, ahead + greatest + behind);
        if (least > 0) {
            fault(d, ahead + (least - 1) + behind, 2, ahead.length());
        }
        fault(d, ahead + (greatest + 1) + behind, 2, ahead.length());
        // numbers that come round to one within the bounds, if they are held in 32 or 64 bits
        fault(d, ahead + "4294967297" + behind, 2, ahead.length());
        fault(d, ahead + "18446744073709551617" + behind, 2, ahead.length());
    }
}
