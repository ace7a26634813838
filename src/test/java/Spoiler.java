import java.util.ArrayList;
import java.util.Arrays;
import java.util.List;
import java.util.Random;

/** Texts in which some tokens or bytes are taken out, told twice, changed or cut off. */
final class Spoiler {
    private static final String[] WORDS = {"place ", "ground ", "field ", "home ", "leg ", "miles ", "air ", "wind ", "down ",
        "hill ", "lift ", "chance ", "up ", "sign ", "speed ", "sink ", "turn ", "water ", "ceiling ", "last ", "worth ",
        "period ", "out ", "start ", "at ", "wet ", "point ", "; "};
    private static final String[] LINES = {"place ground 3 ;", "place ground 0 home ;", "leg 0 1 miles 5 air 0 wind 0 ;",
        "speed 50 sink 90 ;", "point 0 ;", "point 1 ;", "point 2 ;", "point 3 ;", "lift 1 chance 50 up 300 ;", "turn 1 ;",
        "water 3 ;", "ceiling 31 ;", "last 47 ;", "worth home 1 period 2 out 3 ;", "start 0 at 5 ;"};

    /** What some number may just be, and what it may not. */
    private static final int[] BOUNDS = {0, 1, 2, 7, 8, 19, 20, 30, 31, 40, 41, 47, 48, 50, 51, 60, 61, 99, 100, 101, 150, 151,
        999, 1000, 2000, 2001, 9999, 10000};

    private final Random random;

    Spoiler(Random random) {
        this.random = random;
    }

    String spoil(String text) {
        String spoiled = text;
        for (int i = random.nextInt(3); i >= 0; i--) {
            int by = random.nextInt(8);
            spoiled = by < 2 ? byByte(spoiled) : by < 4 ? byLine(spoiled) : by < 6 ? byNumber(spoiled) : byToken(spoiled);
        }
        return spoiled;
    }

    /** One more line, told or taken from the text, ahead of another one or behind them all. */
    private String byLine(String text) {
        List<String> lines = new ArrayList<>(Arrays.asList(text.split("(?<=;)")));
        String line = random.nextBoolean() ? LINES[random.nextInt(LINES.length)] : lines.get(random.nextInt(lines.size()));
        lines.add(random.nextInt(3) == 0 ? lines.size() : random.nextInt(lines.size()), line);
        return String.join("", lines);
    }

    /** Another number in place of one that is told. */
    private String byNumber(String text) {
        int at = random.nextInt(text.length() + 1);
        while (at < text.length() && !Character.isDigit(text.charAt(at))) {
            at++;
        }
        int behind = at;
        while (behind < text.length() && Character.isDigit(text.charAt(behind))) {
            behind++;
        }
        return text.substring(0, at) + (behind > at ? "" + number() : "") + text.substring(behind);
    }

    private String byToken(String text) {
        List<String> parts = new ArrayList<>(Arrays.asList(text.split("(?<=[ \\n;])")));
        int at = random.nextInt(parts.size());
        switch (random.nextInt(5)) {
            case 0:
                parts.remove(at);
                break;
            case 1:
                parts.add(at, parts.get(random.nextInt(parts.size())));
                break;
            case 2:
                parts.add(at, WORDS[random.nextInt(WORDS.length)]);
                break;
            case 3:
                return String.join("", parts.subList(0, at));
            default:
                parts.set(at, number() + " ");
                break;
        }
        return String.join("", parts);
    }

    private long number() {
        if (random.nextInt(2) == 0) {
            return BOUNDS[random.nextInt(BOUNDS.length)];
        }
        return random.nextInt(3) == 0 ? random.nextLong() >>> 1 + random.nextInt(60) : random.nextInt(70);
    }

    private String byByte(String text) {
        StringBuilder spoiled = new StringBuilder(text);
        int at = random.nextInt(text.length() + 1);
        if (random.nextInt(3) == 0 || at == text.length()) {
            return spoiled.insert(at, sign()).toString();
        }
        if (random.nextInt(2) == 0) {
            return spoiled.deleteCharAt(at).toString();
        }
        spoiled.setCharAt(at, sign());
        return spoiled.toString();
    }

    private char sign() {
        String plain = " \n;0159azd\t\r";
        return random.nextInt(4) == 0 ? (char) random.nextInt(256) : plain.charAt(random.nextInt(plain.length()));
    }
}
