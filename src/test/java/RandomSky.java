import java.util.ArrayList;
import java.util.List;
import java.util.Random;

/** Skies drawn from a seed, each as a model and as its text. */
final class RandomSky {
    final Model model = new Model();
    final String text;
    private final Random random;
    private final StringBuilder told = new StringBuilder();
    private int lines;

    RandomSky(long seed) {
        random = new Random(seed);
        if (seed % 3 != 0) {
            tellTame();
            text = told.toString();
            return;
        }
        boolean rich = random.nextInt(4) == 0;
        if (random.nextInt(3) == 0) {
            settings();
        }
        int places = rich ? 3 + random.nextInt(6) : 1 + random.nextInt(5);
        for (int i = 0; i < places; i++) {
            place(i);
        }
        if (model.ceiling == 40 && random.nextInt(3) == 0 && lines == places) {
            settings();
        }
        int legs = places < 2 ? 0 : random.nextInt(rich ? 11 : 7);
        for (int i = 0; i < legs; i++) {
            leg(places);
        }
        for (int i = 0; i < places; i++) {
            if (random.nextInt(4) != 0) {
                lift(i);
            }
        }
        int speeds = random.nextInt(8) == 0 ? 0 : 1 + random.nextInt(rich ? 6 : 3);
        for (int i = 0; i < speeds; i++) {
            speed();
        }
        if (random.nextInt(10) != 0) {
            start(places);
        }
        points(places);
        text = told.toString();
    }

    int lines() {
        return lines;
    }

    /** A sky through which a glider may well come home: what is chosen has more sides than in a wild one. */
    private void tellTame() {
        model.turn = between(0, 120);
        line("turn " + model.turn);
        model.water = between(10, 40);
        line("water " + model.water);
        model.last = between(8, 30);
        line("last " + model.last);
        model.worthHome = between(500, 2000);
        model.worthPeriod = between(0, 30);
        model.worthOut = between(0, 900);
        line("worth home " + model.worthHome + " period " + model.worthPeriod + " out " + model.worthOut);
        int places = 3 + random.nextInt(4);
        for (int i = 0; i < places; i++) {
            int field = i > 0 && i < places - 1 && oneIn(3) ? between(0, 300) : Model.NONE;
            boolean isHome = i == places - 1;
            int ground = between(0, 6);
            model.places.add(new int[] {ground, field});
            model.home = isHome ? i : Model.NONE;
            line("place ground " + ground + (isHome ? " home" : field >= 0 ? " field " + field : ""));
        }
        for (int i = 0; i + 1 < places; i++) {
            tameLeg(i, i + 1);
        }
        for (int i = random.nextInt(3); i > 0; i--) {
            int a = random.nextInt(places);
            tameLeg(a, (a + 1 + random.nextInt(places - 1)) % places);
        }
        for (int i = 0; i < places; i++) {
            if (!oneIn(5)) {
                tameLift(i);
            }
        }
        for (int i = 1 + random.nextInt(3); i > 0; i--) {
            int speed = between(35, 90);
            int sink = speed * 3 + between(-60, 60);
            model.speeds.add(new int[] {speed, sink});
            line("speed " + speed + " sink " + sink);
        }
        model.startPlace = oneIn(4) ? random.nextInt(places) : 0;
        model.startAt = between(6, 30);
        model.startWet = !oneIn(3);
        line("start " + model.startPlace + " at " + model.startAt + (model.startWet ? " wet" : ""));
        points(places);
    }

    private void tameLeg(int a, int b) {
        int miles = between(3, 14);
        int air = oneIn(2) ? 0 : between(-100, 150);
        int wind = between(-12, 12);
        int hill = oneIn(4) ? between(2, 15) : 0;
        model.legs.add(new int[] {a, b, miles, air, wind, hill});
        line("leg " + a + " " + b + " miles " + miles + " air " + signed(air) + " wind " + signed(wind)
            + (hill > 0 ? " hill " + hill : ""));
    }

    private void tameLift(int p) {
        int chance = between(10, 95);
        int up = between(200, 900);
        int there = between(50, 100);
        int gone = between(0, 60);
        model.lifts.put(p, new int[] {chance, up, there, gone});
        line("lift " + p + " chance " + chance + " up " + up + " sign " + there + " " + gone);
    }

    private int between(int least, int greatest) {
        return least + random.nextInt(greatest - least + 1);
    }

    private boolean oneIn(int n) {
        return random.nextInt(n) == 0;
    }

    private void line(String words) {
        told.append(words.replace(" ", oneIn(5) ? "\n " : " ")).append(oneIn(2) ? ";" : " ;\n");
        lines++;
    }

    private void settings() {
        if (oneIn(2)) {
            model.turn = between(0, oneIn(5) ? 999 : 150);
            line("turn " + model.turn);
        }
        if (!oneIn(3)) {
            model.water = between(0, 50);
            line("water " + model.water);
        }
        if (oneIn(2)) {
            model.ceiling = between(31, 60);
            line("ceiling " + model.ceiling);
        }
        if (oneIn(2)) {
            model.last = between(1, 47);
            line("last " + model.last);
        }
        if (!oneIn(3)) {
            model.worthHome = between(0, oneIn(3) ? 9999 : 1500);
            model.worthPeriod = between(0, oneIn(2) ? 99 : 20);
            model.worthOut = between(0, oneIn(3) ? 9999 : 700);
            line("worth home " + model.worthHome + " period " + model.worthPeriod + " out " + model.worthOut);
        }
    }

    private void place(int i) {
        int ground = between(0, oneIn(4) ? 30 : 10);
        int field = Model.NONE;
        String rest = "";
        if (model.home == Model.NONE && oneIn(3)) {
            model.home = i;
            rest = " home";
        } else if (oneIn(3)) {
            field = between(0, 999);
            rest = " field " + field;
        }
        model.places.add(new int[] {ground, field});
        line("place ground " + ground + rest);
    }

    private String signed(int v) {
        return v < 0 ? -v + " down" : "" + v;
    }

    private void leg(int places) {
        int a = random.nextInt(places);
        int b = (a + 1 + random.nextInt(places - 1)) % places;
        int miles = between(1, oneIn(3) ? 60 : 20);
        int air = oneIn(3) ? 0 : between(oneIn(4) ? -999 : -200, oneIn(4) ? 999 : 250);
        int wind = oneIn(2) ? between(-60, 60) : between(-15, 15);
        int hill = oneIn(4) ? between(0, 40) : 0;
        model.legs.add(new int[] {a, b, miles, air, wind, hill});
        line("leg " + a + " " + b + " miles " + miles + " air " + signed(air) + " wind " + signed(wind)
            + (hill > 0 || oneIn(5) ? " hill " + hill : ""));
    }

    private void lift(int p) {
        int[] edges = {0, 100, 50};
        int chance = oneIn(4) ? edges[random.nextInt(3)] : between(0, 100);
        int up = between(0, oneIn(3) ? 2000 : 900);
        int there = 0;
        int gone = 0;
        String rest = "";
        if (!oneIn(3)) {
            there = oneIn(4) ? edges[random.nextInt(3)] : between(0, 100);
            gone = oneIn(4) ? edges[random.nextInt(3)] : between(0, 100);
            rest = " sign " + there + " " + gone;
        }
        model.lifts.put(p, new int[] {chance, up, there, gone});
        line("lift " + p + " chance " + chance + " up " + up + rest);
    }

    private void speed() {
        int speed = between(20, oneIn(2) ? 150 : 80);
        int sink = between(1, oneIn(3) ? 999 : 300);
        model.speeds.add(new int[] {speed, sink});
        line("speed " + speed + " sink " + sink);
    }

    private void start(int places) {
        model.startPlace = random.nextInt(places);
        model.startAt = between(0, 60);
        model.startWet = oneIn(2);
        line("start " + model.startPlace + " at " + model.startAt + (model.startWet ? " wet" : ""));
    }

    private void points(int places) {
        List<Integer> free = new ArrayList<>();
        for (int p = 0; p < places; p++) {
            free.add(p);
        }
        for (int i = 0; i < 3 && !free.isEmpty() && oneIn(2); i++) {
            int p = free.remove(random.nextInt(free.size()));
            model.points.add(p);
            line("point " + p);
        }
    }
}
