import java.nio.charset.StandardCharsets;
import java.util.Random;

/** Texts with faults, most of them: what sky() and fault() answer is compared with the TextModel. */
public final class SpoiledTextTest {
    private static final String FULL = full();

    public static void main(String[] args) {
        long from = args.length > 0 ? Long.parseLong(args[0]) : 0;
        long texts = args.length > 1 ? Long.parseLong(args[1]) : 20000;
        Due d = new Due("SpoiledTextTest");
        LastCloud x = new LastCloud();
        for (long seed = from; seed < from + texts && d.wrong() == 0; seed++) {
            Random random = new Random(seed);
            String text = random.nextInt(4) == 0 ? FULL : new RandomSky(seed).text;
            tell(d, x, new Spoiler(random).spoil(text));
        }
        d.finish();
    }

    private static void tell(Due d, LastCloud x, String text) {
        if (text.length() > 1600) {
            return;
        }
        int[] former = {x.count(0), x.count(4), x.count(6)};
        TextModel due = new TextModel(text.getBytes(StandardCharsets.ISO_8859_1));
        d.due("sky() of '" + text + "'", Skies.tell(x, text), due.fault == 0 ? due.lines : -4);
        d.due("fault(0) of '" + text + "'", x.fault(0), due.fault);
        d.due("fault(1) of '" + text + "'", x.fault(1), due.faultPlace);
        boolean fits = due.fault == 0;
        d.due("places of '" + text + "'", x.count(0), fits ? due.model.places.size() : former[0]);
        d.due("lines of '" + text + "'", x.count(4), fits ? due.lines : former[1]);
        d.due("the start of '" + text + "'", x.count(6), fits ? due.model.startPlace : former[2]);
    }

    /** A sky with no room for another line of most kinds. */
    private static String full() {
        StringBuilder text = new StringBuilder("turn 9;water 5;ceiling 50;last 30;worth home 5 period 1 out 2;");
        for (int i = 0; i < 8; i++) {
            text.append("place ground ").append(i).append(i == 4 ? " home;" : i < 3 ? ";" : " field 7;");
        }
        for (int i = 0; i < 10; i++) {
            text.append("leg 0 ").append(1 + i % 7).append(" miles 3 air 0 wind 0;");
        }
        for (int i = 0; i < 6; i++) {
            text.append("speed 50 sink 90;").append(i < 3 ? "point " + i + ";" : "");
        }
        for (int i = 1; i < 7; i++) {
            text.append("lift ").append(i).append(" chance 1 up 2;");
        }
        return text + "start 0 at 9;";
    }
}
