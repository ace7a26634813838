import java.nio.charset.StandardCharsets;
import java.util.ArrayList;
import java.util.HashSet;
import java.util.List;
import java.util.Set;
import java.util.regex.Matcher;
import java.util.regex.Pattern;

/**
 * Term I once more, in another form: every way in which a LINE may be told stands as a row of items, and the rows that do
 * not fit a token fall out, one token after another.
 */
final class TextModel {
    /** Capitals are numbers, told in bounds(); the rest are words and the sign. */
    private static final String[] ROWS = {
        "place ground G ;", "place ground G field F ;", "place ground G home ;",
        "leg P Q miles M air A wind W ;", "leg P Q miles M air A down wind W ;",
        "leg P Q miles M air A wind W down ;", "leg P Q miles M air A down wind W down ;",
        "leg P Q miles M air A wind W hill H ;", "leg P Q miles M air A down wind W hill H ;",
        "leg P Q miles M air A wind W down hill H ;", "leg P Q miles M air A down wind W down hill H ;",
        "lift L chance C up U ;", "lift L chance C up U sign I J ;",
        "speed S sink K ;", "turn T ;", "water B ;", "ceiling E ;", "last D ;",
        "worth home X period Y out Z ;", "start P at N ;", "start P at N wet ;", "point R ;"};
    private static final Pattern TOKEN = Pattern.compile("[a-z]+|[0-9]+|[^ \\n]", Pattern.DOTALL);

    final Model model = new Model();
    int lines;
    int fault;
    int faultPlace = Model.NONE;

    private final Set<String> told = new HashSet<>();
    private List<String[]> open;
    private List<String> line;

    TextModel(byte[] tape) {
        String text = new String(tape, StandardCharsets.ISO_8859_1);
        Matcher tokens = TOKEN.matcher(text);
        begin();
        while (fault == 0 && tokens.find()) {
            String token = tokens.group();
            fault = faultOf(token);
            if (fault != 0) {
                faultPlace = tokens.start();
            } else if (token.equals(";")) {
                settle();
                begin();
            }
        }
        if (fault == 0 && !line.isEmpty()) {
            fault = 1;
            faultPlace = text.length();
        }
    }

    private void begin() {
        line = new ArrayList<>();
        open = new ArrayList<>();
        for (String row : ROWS) {
            open.add(row.split(" "));
        }
    }

    private int faultOf(String token) {
        int at = line.size();
        open.removeIf(row -> !fits(row[at], token));
        if (open.isEmpty()) {
            return 1;
        }
        String item = open.get(0)[at];
        line.add(token);
        if (told.contains(at == 0 || token.equals("home") && line.get(0).equals("place") ? token : "")) {
            return 2;
        }
        if (at == 0 && isFull(token)) {
            return 3;
        }
        return isNumber(item) && !isWithin(item, token) ? 2 : 0;
    }

    private static boolean isNumber(String item) {
        return Character.isUpperCase(item.charAt(0));
    }

    private static boolean fits(String item, String token) {
        return isNumber(item) ? Character.isDigit(token.charAt(0)) : item.equals(token);
    }

    private boolean isFull(String word) {
        switch (word) {
            case "place":
                return model.places.size() == 8;
            case "leg":
                return model.legs.size() == 10;
            case "speed":
                return model.speeds.size() == 6;
            case "point":
                return model.points.size() == 3;
            default:
                return lines == 60;
        }
    }

    private boolean isWithin(String item, String token) {
        java.math.BigInteger exact = new java.math.BigInteger(token);
        if (exact.bitLength() > 30) {
            return false;
        }
        int n = exact.intValue();
        boolean isPlace = n < model.places.size();
        switch (item) {
            case "P":
                return isPlace;
            case "Q":
                return isPlace && n != number(1);
            case "L":
                return isPlace && !model.lifts.containsKey(n);
            case "R":
                return isPlace && !model.points.contains(n);
            default:
                int[] bounds = bounds(item);
                return n >= bounds[0] && n <= bounds[1];
        }
    }

    private static int[] bounds(String item) {
        switch (item) {
            case "G":
                return new int[] {0, 30};
            case "M":
                return new int[] {1, 60};
            case "H":
                return new int[] {0, 40};
            case "W":
            case "N":
                return new int[] {0, 60};
            case "C":
            case "I":
            case "J":
                return new int[] {0, 100};
            case "U":
                return new int[] {0, 2000};
            case "S":
                return new int[] {20, 150};
            case "K":
                return new int[] {1, 999};
            case "B":
                return new int[] {0, 50};
            case "E":
                return new int[] {31, 60};
            case "D":
                return new int[] {1, 47};
            case "Y":
                return new int[] {0, 99};
            case "X":
            case "Z":
                return new int[] {0, 9999};
            default:
                return new int[] {0, 999};
        }
    }

    private int number(int i) {
        return Integer.parseInt(line.get(i));
    }

    /** The number behind a word, or another one where the word does not stand. */
    private int behind(String word, int without) {
        int at = line.indexOf(word);
        if (at < 0) {
            return without;
        }
        boolean isDown = at + 2 < line.size() && line.get(at + 2).equals("down");
        return isDown ? -number(at + 1) : number(at + 1);
    }

    private void settle() {
        lines++;
        String word = line.get(0);
        switch (word) {
            case "place":
                model.places.add(new int[] {number(2), behind("field", Model.NONE)});
                if (line.contains("home")) {
                    model.home = model.places.size() - 1;
                    told.add("home");
                }
                return;
            case "leg":
                model.legs.add(new int[] {number(1), number(2), behind("miles", 0), behind("air", 0), behind("wind", 0),
                    behind("hill", 0)});
                return;
            case "lift":
                int sign = line.indexOf("sign");
                model.lifts.put(number(1), new int[] {behind("chance", 0), behind("up", 0),
                    sign < 0 ? 0 : number(sign + 1), sign < 0 ? 0 : number(sign + 2)});
                return;
            case "speed":
                model.speeds.add(new int[] {number(1), behind("sink", 0)});
                return;
            case "point":
                model.points.add(number(1));
                return;
            default:
                told.add(word);
                settleOnce(word);
        }
    }

    private void settleOnce(String word) {
        switch (word) {
            case "turn":
                model.turn = number(1);
                return;
            case "water":
                model.water = number(1);
                return;
            case "ceiling":
                model.ceiling = number(1);
                return;
            case "last":
                model.last = number(1);
                return;
            case "worth":
                model.worthHome = behind("home", 0);
                model.worthPeriod = behind("period", 0);
                model.worthOut = behind("out", 0);
                return;
            default:
                model.startPlace = number(1);
                model.startAt = behind("at", 0);
                model.startWet = line.contains("wet");
        }
    }
}
