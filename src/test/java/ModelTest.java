import java.util.Random;

/** Promises 1 to 23 in long random runs beside the Model; no call throws; each drop is counted. */
public final class ModelTest extends Due {
    // The document promises nothing behind the 512th call of an object: the closing look takes some 150 of them.
    private static final int RUNS = 8000, CALLS = 340;
    private static final String BYTES = "0123456789999::::----;;;;      x/";

    private final Random random;
    private final String name;
    private final WaterMen w = new WaterMen();
    private final Model m = new Model();
    private int fountains, jars, men, calls;

    private ModelTest(int run) {
        random = new Random(run);
        name = "run " + run + " ";
    }

    public static void main(String[] args) {
        for (int run = 0; run < RUNS; run++) new ModelTest(run).oneRun(run);
        end();
    }

    private void oneRun(int run) {
        // Some runs begin with nothing, most with a city that is near its limits.
        if (run % 5 != 0) buildCity();
        while (calls < CALLS) {
            oneCall();
            oneLook();
            oneLook();
        }
        lookAtMenAndWater();
        countDrops();
        due(name + "keeps to 512 calls", calls <= 512 ? 1 : 0, 1);
    }

    private void same(String call, long got, long want) {
        calls++;
        due(name + call, got, want);
    }

    private void buildCity() {
        int most = 1 + random.nextInt(4);
        for (int i = 0; i < most; i++) addFountain();
        most = 1 + random.nextInt(8);
        for (int i = 0; i < most; i++) addJar();
        most = 1 + random.nextInt(10);
        for (int i = 0; i < most; i++) addMan();
    }

    /** From least to most, mostly; now and then just outside, or wild. */
    private int number(int least, int most) {
        int how = random.nextInt(60);
        if (how == 0) return least - 1;
        if (how == 1) return most + 1;
        if (how == 2) return WILD[random.nextInt(WILD.length)];
        if (how == 3) return random.nextInt();
        return most < least ? least : least + random.nextInt(most - least + 1);
    }

    private void addFountain() {
        int flow = number(1, 20);
        int answer = m.fountain(flow);
        same("fountain(" + flow + ")", w.fountain(flow), answer);
        fountains = m.count(0);
    }

    private void addJar() {
        int floor = number(0, 9), holds = number(1, 200), near = random.nextInt(3) == 0 ? 30 : 6;
        int a = number(1, near), b = number(1, near), c = number(1, near), d = number(1, near);
        same("jar(" + floor + ", " + holds + ", ..)", w.jar(floor, holds, a, b, c, d), m.jar(floor, holds, a, b, c, d));
        jars = m.count(1);
    }

    private void addMan() {
        int kind = number(0, 2), load = number(1, 40), f = number(0, fountains - 1), j = number(0, jars - 1);
        same("man(" + kind + ", " + load + ", " + f + ", " + j + ")", w.man(kind, load, f, j), m.man(kind, load, f, j));
        men = m.count(2);
    }

    private void typeSome() {
        int n = number(1, 8);
        long word = random.nextInt(20) == 0 ? random.nextLong() : 0;
        if (word == 0) for (int i = 0; i < 8; i++) word = word << 8 | BYTES.charAt(random.nextInt(BYTES.length()));
        same("type(" + word + ", " + n + ")", w.type(word, n), m.type(word, n));
    }

    private void typeClauses() {
        StringBuilder text = new StringBuilder();
        for (int clauses = 1 + random.nextInt(6); clauses > 0; clauses--) {
            int from = random.nextInt(10);
            text.append(from);
            if (random.nextBoolean()) text.append(random.nextInt(4) == 0 ? " - " : "-").append(Math.min(9, from + random.nextInt(5)));
            text.append(":").append(random.nextInt(101)).append(clauses > 1 ? ";" : "");
        }
        for (int at = 0; at < text.length(); at += 8) {
            long word = 0;
            int n = Math.min(8, text.length() - at);
            for (int i = 0; i < n; i++) word = word << 8 | text.charAt(at + i);
            same("type " + text, w.type(word, n), m.type(word, n));
        }
        same("fares of " + text, w.fares(), m.fares());
    }

    private void oneCall() {
        int man = number(0, men - 1), f = number(0, fountains - 1), j = number(0, jars - 1), x;
        switch (random.nextInt(24)) {
            case 0 -> addFountain();
            case 1 -> addJar();
            case 2 -> addMan();
            case 3 -> same("drinks", w.drinks(j, x = number(0, 9)), m.drinks(j, x));
            case 4 -> same("right", w.right(man, x = number(0, 3)), m.right(man, x));
            case 5 -> same("pace", w.pace(man, x = number(1, 5)), m.pace(man, x));
            case 6, 7 -> same("moves", w.moves(man, f, j), m.moves(man, f, j));
            case 8 -> {
                boolean is = random.nextInt(4) != 0;
                same("open", w.open(f, is), m.open(f, is));
            }
            case 9 -> same("drought", w.drought(x = random.nextBoolean() ? 100 : number(0, 100)), m.drought(x));
            case 10, 11 -> typeSome();
            case 12 -> same("fares", w.fares(), m.fares());
            case 13 -> typeClauses();
            case 14 -> same("fire", w.fire(j, x = number(0, 60)), m.fire(j, x));
            case 15, 16 -> {
                int n = number(1, 6), some = Math.floorMod(n, 7), firstMan = number(0, men - some), firstJar = number(0, jars - some);
                same("give", w.give(firstMan, firstJar, n), m.give(firstMan, firstJar, n));
            }
            case 17 -> same("run", w.run(x = number(1, 500)), m.run(x));
            default -> same("run", w.run(x = number(1, 12)), m.run(x));
        }
    }

    private void oneLook() {
        int man = number(0, men - 1), f = number(0, fountains - 1), x, y;
        switch (random.nextInt(10)) {
            case 0, 1, 2 -> same("told(" + man + ", " + (x = number(0, 8)) + ")", w.told(man, x), m.told(man, x));
            case 3 -> same("given(" + man + ")", w.given(man), m.given(man));
            case 4 -> same("water(" + (y = number(0, jars - 1)) + ", " + (x = number(0, 3)) + ")", w.water(y, x), m.water(y, x));
            case 5 -> same("sum(" + (x = number(0, 7)) + ")", w.sum(x), m.sum(x));
            case 6 -> same("count(" + (x = number(0, 6)) + ")", w.count(x), m.count(x));
            case 7 -> same("poured(" + (y = number(0, 99)) + ", " + (x = number(0, 5)) + ")", w.poured(y, x), m.poured(y, x));
            case 8 -> same("foul(" + f + ", " + (x = number(0, (int) m.sum(7))) + ")", w.foul(f, x), m.foul(f, x));
            default -> same("fare(" + (x = number(0, 9)) + ")", w.fare(x), m.fare(x));
        }
    }

    private void lookAtMenAndWater() {
        for (int man = 0; man < men; man++) {
            for (int what = 0; what < 6; what++) same("told(" + man + ", " + what + ")", w.told(man, what), m.told(man, what));
        }
        for (int f = 0; f < fountains; f++) same("water(" + f + ", 0)", w.water(f, 0), m.water(f, 0));
        for (int j = 0; j < jars; j++) same("water(" + j + ", 1)", w.water(j, 1), m.water(j, 1));
        for (int what = 0; what < 8; what++) same("sum(" + what + ")", w.sum(what), m.sum(what));
    }

    private void countDrops() {
        long inFountains = 0, inJars = 0, carried = 0, earned = 0;
        for (int f = 0; f < fountains; f++) inFountains += w.water(f, 0);
        for (int j = 0; j < jars; j++) inJars += w.water(j, 1);
        for (int man = 0; man < men; man++) {
            carried += w.told(man, 2);
            earned += w.told(man, 3);
        }
        calls += fountains + jars + 2 * men + 10;
        due(name + "flowed", w.sum(0), w.sum(1) + w.sum(2) + inFountains);
        due(name + "filled", w.sum(2), w.sum(3) + w.sum(5) + carried);
        due(name + "poured", w.sum(3), w.sum(4) + inJars);
        due(name + "earned", w.sum(6), earned);
    }
}
