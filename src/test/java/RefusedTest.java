import java.util.ArrayList;
import java.util.List;
import java.util.function.Supplier;
import java.util.function.ToLongFunction;

/** What the document says of all refusals: of several the first that a call names; what is refused changes nothing. */
public final class RefusedTest extends Edges {
    private static final int FAR = Integer.MAX_VALUE;

    public static void main(String[] args) {
        sentence("BAD -1", () -> due("BAD", WaterMen.BAD, -1));
        sentence("NOT -2", () -> due("NOT", WaterMen.NOT, -2));
        sentence("FULL -3", () -> due("FULL", WaterMen.FULL, -3));
        sentence("NONE -4", () -> due("NONE", WaterMen.NONE, -4));
        sentence("CAST -13", () -> due("CAST", WaterMen.CAST, -13));
        theFirstNamed();
        changesNothing();
        end();
    }

    // ---- of several the first that a call names

    private static void theFirstNamed() {
        sentence("of several the first that a call names: fountain", RefusedTest::firstOfFountain);
        sentence("of several the first that a call names: jar", RefusedTest::firstOfJar);
        sentence("of several the first that a call names: man", RefusedTest::firstOfMan);
        sentence("of several the first that a call names: pace", RefusedTest::firstOfPace);
        sentence("of several the first that a call names: moves", RefusedTest::firstOfMoves);
        sentence("of several the first that a call names: type", RefusedTest::firstOfType);
        sentence("of several the first that a call names: run", RefusedTest::firstOfRun);
        sentence("of several the first that a call names: poured", RefusedTest::firstOfPoured);
        sentence("of several the first that a call names: give", RefusedTest::firstOfGive);
    }

    private static void firstOfFountain() {
        due("BAD, NOT", city(5, 0, 5, 1).fountain(0), -1);
        due("BAD, FULL", withFountains(5, 5, 5, 5).fountain(21), -1);
        due("BAD, NOT, FULL", fullCity().fountain(21), -1);
        due("NOT, FULL", fullCity().fountain(5), -2);
    }

    private static void firstOfJar() {
        due("BAD (floor), NOT", new WaterMen().jar(10, 5, 1, 1, 1, 1), -1);
        due("BAD (holds), NOT", new WaterMen().jar(0, 201, 1, 1, 1, 1), -1);
        due("BAD (floor), FULL", fullCity().jar(-1, 5, 1, 1, 1, 1), -1);
        due("BAD (holds), FULL", fullCity().jar(0, 0, 1, 1, 1, 1), -1);
        due("BAD (minutes), FULL", fullCity().jar(0, 5, 1, 1, 1, 31), -1);
    }

    private static void firstOfMan() {
        WaterMen w = city(5, 5, 5, 1);
        due("BAD (load), NOT", w.man(0, 41, 0, 0), -1);
        due("BAD (fountain), NOT", w.man(0, 5, 1, 0), -1);
        w = fullCity();
        due("BAD (kind), FULL", w.man(3, 5, 0, 0), -1);
        due("BAD (load), FULL", w.man(0, 0, 0, 0), -1);
        due("BAD (jar), FULL", w.man(0, 5, 0, 8), -1);
        due("BAD, NOT, FULL", w.man(0, 41, 0, 7), -1);
        due("NOT, FULL", w.man(0, 5, 0, 7), -2);
    }

    private static void firstOfPace() {
        WaterMen w = busyCity();
        due("BAD, CAST of a man", w.pace(0, 0), -1);
        due("BAD, CAST of a strong one", w.pace(1, 6), -1);
    }

    private static void firstOfMoves() {
        WaterMen w = busyCity();
        due("he goes up", w.told(0, 0), 1);
        due("BAD (fountain), NOT", w.moves(0, 2, 0), -1);
        due("BAD (jar), NOT", w.moves(0, 0, 3), -1);
        due("BAD (fountain), NOT: the floor", w.moves(3, 2, 1), -1);
    }

    private static void firstOfType() {
        WaterMen w = fullCity();
        due("BAD (n), FULL", w.type(0x2020202020202020L, 9), -1);
        due("BAD (n), FULL", w.type(0x20, 0), -1);
        due("BAD (a byte), FULL", w.type(0x7F, 1), -1);
        due("BAD (a byte), FULL", w.type(0x201F, 2), -1);
    }

    private static void firstOfRun() {
        WaterMen w = fullCity();
        due("BAD, FULL", w.run(501), -1);
        due("BAD, FULL", w.run(FAR), -1);
        due("FULL alone", w.run(500), -3);
    }

    private static void firstOfPoured() {
        WaterMen w = new WaterMen();
        due("BAD (what), NONE", w.poured(0, 6), -1);
        due("BAD (what), NONE", w.poured(FAR, -1), -1);
    }

    private static void firstOfGive() {
        WaterMen w = city(5, 9, 5, 1);
        w.jar(0, 5, 1, 0, 0, 0);
        w.man(0, 5, 0, 1);
        due("NONE alone", w.give(0, 0, 1), -4);
        due("BAD (MEN), NONE", w.give(0, 0, 2), -1);
        due("BAD (n), NONE", w.give(0, 0, 0), -1);
        w = city(5, 9, 5, 1);
        w.jar(9, 5, 1, 0, 0, 0);
        w.jar(0, 5, 1, 0, 0, 0);
        for (int m = 0; m < 4; m++) w.man(0, 5, 0, 2);
        due("BAD (JARS), NONE", w.give(0, 0, 4), -1);
    }

    // ---- what is refused changes nothing

    private static void changesNothing() {
        sentence("What is refused changes nothing: fountain, jar", RefusedTest::refusedFountainsAndJars);
        sentence("What is refused changes nothing: drinks", RefusedTest::refusedDrinks);
        sentence("What is refused changes nothing: man", RefusedTest::refusedMen);
        sentence("What is refused changes nothing: right, pace", RefusedTest::refusedRightsAndPaces);
        sentence("What is refused changes nothing: moves", RefusedTest::refusedMoves);
        sentence("What is refused changes nothing: open, drought", RefusedTest::refusedOpenings);
        sentence("What is refused changes nothing: type", RefusedTest::refusedTypes);
        sentence("What is refused changes nothing: run", RefusedTest::refusedRuns);
        sentence("What is refused changes nothing: fire", RefusedTest::refusedFires);
        sentence("What is refused changes nothing: give", RefusedTest::refusedGivings);
        sentence("What is refused changes nothing: fare, told, water, sum, poured, foul, given, count", RefusedTest::refusedLooks);
    }

    private static void refusedFountainsAndJars() {
        dueUnchanged("fountain BAD", WaterMen::new, w -> w.fountain(21), -1);
        dueUnchanged("fountain NOT", RefusedTest::busyCity, w -> w.fountain(5), -2);
        dueUnchanged("fountain FULL", () -> withFountains(5, 6, 7, 8), w -> w.fountain(5), -3);
        dueUnchanged("jar BAD floor", RefusedTest::busyCity, w -> w.jar(10, 5, 1, 1, 1, 1), -1);
        dueUnchanged("jar BAD holds", RefusedTest::busyCity, w -> w.jar(0, 0, 1, 1, 1, 1), -1);
        dueUnchanged("jar BAD minutes", RefusedTest::busyCity, w -> w.jar(0, 5, 1, 31, 1, 1), -1);
        dueUnchanged("jar NOT", WaterMen::new, w -> w.jar(0, 5, 1, 1, 1, 1), -2);
        dueUnchanged("jar FULL", RefusedTest::fullCity, w -> w.jar(0, 5, 1, 1, 1, 1), -3);
    }

    private static void refusedDrinks() {
        dueUnchanged("drinks BAD jar", RefusedTest::busyCity, w -> w.drinks(3, 5), -1);
        dueUnchanged("drinks BAD jar", RefusedTest::busyCity, w -> w.drinks(-1, 5), -1);
        dueUnchanged("drinks BAD n", RefusedTest::busyCity, w -> w.drinks(0, 10), -1);
        dueUnchanged("drinks BAD n", RefusedTest::busyCity, w -> w.drinks(0, -1), -1);
    }

    private static void refusedMen() {
        dueUnchanged("man BAD kind", RefusedTest::busyCity, w -> w.man(3, 5, 0, 0), -1);
        dueUnchanged("man BAD load", RefusedTest::busyCity, w -> w.man(0, 41, 0, 0), -1);
        dueUnchanged("man BAD fountain", RefusedTest::busyCity, w -> w.man(0, 5, 2, 0), -1);
        dueUnchanged("man BAD jar", RefusedTest::busyCity, w -> w.man(0, 5, 0, 3), -1);
        dueUnchanged("man NOT", RefusedTest::busyCity, w -> w.man(0, 5, 0, 1), -2);
        dueUnchanged("man FULL", RefusedTest::fullCity, w -> w.man(0, 5, 0, 0), -3);
    }

    private static void refusedRightsAndPaces() {
        dueUnchanged("right BAD man", RefusedTest::busyCity, w -> w.right(5, 2), -1);
        dueUnchanged("right BAD r", RefusedTest::busyCity, w -> w.right(3, 4), -1);
        dueUnchanged("right BAD r", RefusedTest::busyCity, w -> w.right(3, -1), -1);
        dueUnchanged("pace BAD man", RefusedTest::busyCity, w -> w.pace(5, 2), -1);
        dueUnchanged("pace BAD p", RefusedTest::busyCity, w -> w.pace(2, 6), -1);
        dueUnchanged("pace BAD p", RefusedTest::busyCity, w -> w.pace(2, 0), -1);
        dueUnchanged("pace CAST", RefusedTest::busyCity, w -> w.pace(0, 1), -13);
        dueUnchanged("pace CAST", RefusedTest::busyCity, w -> w.pace(1, 1), -13);
    }

    private static void refusedMoves() {
        dueUnchanged("moves BAD man", RefusedTest::busyCity, w -> w.moves(5, 0, 0), -1);
        dueUnchanged("moves BAD fountain", RefusedTest::busyCity, w -> w.moves(3, 2, 0), -1);
        dueUnchanged("moves BAD jar", RefusedTest::busyCity, w -> w.moves(3, 1, 3), -1);
        dueUnchanged("moves NOT: up", RefusedTest::busyCity, w -> w.moves(0, 1, 0), -2);
        dueUnchanged("moves NOT: down", RefusedTest::downCity, w -> w.moves(0, 1, 0), -2);
        dueUnchanged("moves NOT: the floor", RefusedTest::busyCity, w -> w.moves(3, 1, 1), -2);
    }

    private static void refusedOpenings() {
        dueUnchanged("open BAD", RefusedTest::busyCity, w -> w.open(2, true), -1);
        dueUnchanged("open BAD", RefusedTest::busyCity, w -> w.open(-1, false), -1);
        dueUnchanged("drought BAD", RefusedTest::busyCity, w -> w.drought(101), -1);
        dueUnchanged("drought BAD", RefusedTest::busyCity, w -> w.drought(-1), -1);
    }

    private static void refusedTypes() {
        dueUnchanged("type BAD n", RefusedTest::busyCity, w -> w.type(0x3030303030303030L, 9), -1);
        dueUnchanged("type BAD n", RefusedTest::busyCity, w -> w.type(0x30, 0), -1);
        dueUnchanged("type BAD, the first byte", RefusedTest::busyCity, w -> w.type(0x1F30, 2), -1);
        dueUnchanged("type BAD, the last byte", RefusedTest::busyCity, w -> w.type(0x307F, 2), -1);
        dueUnchanged("type FULL", RefusedTest::fullCity, w -> w.type(0x30, 1), -3);
        dueUnchanged("type FULL by one", RefusedTest::nearlyFullTape, w -> w.type(0x39203B, 3), -3);
    }

    private static void refusedRuns() {
        dueUnchanged("run BAD", RefusedTest::busyCity, w -> w.run(0), -1);
        dueUnchanged("run BAD", RefusedTest::busyCity, w -> w.run(501), -1);
        dueUnchanged("run FULL", RefusedTest::fullCity, w -> w.run(1), -3);
        dueUnchanged("run FULL", RefusedTest::nearlyLate, w -> w.run(11), -3);
    }

    private static void refusedFires() {
        dueUnchanged("fire BAD jar", RefusedTest::busyCity, w -> w.fire(3, 60), -1);
        dueUnchanged("fire BAD w", RefusedTest::busyCity, w -> w.fire(0, 61), -1);
        dueUnchanged("fire BAD w", RefusedTest::busyCity, w -> w.fire(0, -1), -1);
    }

    private static void refusedGivings() {
        dueUnchanged("give BAD man", RefusedTest::busyCity, w -> w.give(5, 0, 1), -1);
        dueUnchanged("give BAD jar", RefusedTest::busyCity, w -> w.give(0, 3, 1), -1);
        dueUnchanged("give BAD n", RefusedTest::busyCity, w -> w.give(0, 0, 0), -1);
        dueUnchanged("give BAD, too few MEN", RefusedTest::busyCity, w -> w.give(4, 0, 2), -1);
        dueUnchanged("give BAD, too few JARS", RefusedTest::busyCity, w -> w.give(0, 0, 4), -1);
        dueUnchanged("give NONE", RefusedTest::busyCity, w -> w.give(0, 1, 1), -4);
        dueUnchanged("give NONE of two", RefusedTest::busyCity, w -> w.give(2, 1, 2), -4);
    }

    private static void refusedLooks() {
        dueUnchanged("fare BAD", RefusedTest::busyCity, w -> w.fare(10), -1);
        dueUnchanged("told BAD", RefusedTest::busyCity, w -> w.told(5, 0), -1);
        dueUnchanged("told BAD what", RefusedTest::busyCity, w -> w.told(0, 9), -1);
        dueUnchanged("water BAD", RefusedTest::busyCity, w -> w.water(2, 0), -1);
        dueUnchanged("water BAD what", RefusedTest::busyCity, w -> w.water(0, 4), -1);
        dueUnchanged("sum BAD", RefusedTest::busyCity, w -> w.sum(8), -1);
        dueUnchanged("poured BAD", RefusedTest::busyCity, w -> w.poured(-1, 0), -1);
        dueUnchanged("poured NONE", RefusedTest::busyCity, w -> w.poured(99, 0), -4);
        dueUnchanged("foul BAD", RefusedTest::busyCity, w -> w.foul(0, -1), -1);
        dueUnchanged("given BAD", RefusedTest::busyCity, w -> w.given(5), -1);
        dueUnchanged("count BAD", RefusedTest::busyCity, w -> w.count(7), -1);
    }

    /** The same calls on a twin without the refused one: both must answer alike, now and later. */
    private static void dueUnchanged(String call, Supplier<WaterMen> city, ToLongFunction<WaterMen> refused, long answer) {
        WaterMen w = city.get(), twin = city.get();
        due(call, refused.applyAsLong(w), answer);
        List<Long> got = lookNowAndLater(w), want = lookNowAndLater(twin);
        int differences = Math.abs(got.size() - want.size());
        for (int i = 0; i < Math.min(got.size(), want.size()); i++) {
            if (!got.get(i).equals(want.get(i))) differences++;
        }
        due(call + ": answers that are not as the twin's", differences, 0);
    }

    // Some 200 calls at most for a look: two of them and the city's own stay below the document's 512.
    private static List<Long> lookNowAndLater(WaterMen w) {
        List<Long> seen = new ArrayList<>();
        look(w, seen);
        for (int j = 0; j < w.count(1); j++) seen.add((long) w.drinks(j, 1));
        for (int f = 0; f < w.count(0); f++) seen.add((long) w.open(f, true));
        for (int m = 0; m < w.count(2); m++) {
            seen.add((long) w.right(m, 0));
            if (w.told(m, 8) == 2) seen.add((long) w.pace(m, 1));
        }
        seen.add((long) w.drought(100));
        seen.add((long) w.type('7', 1));
        seen.add((long) w.fares());
        seen.add((long) w.run(7));
        look(w, seen);
        return seen;
    }

    private static void look(WaterMen w, List<Long> seen) {
        for (int what = 0; what < 7; what++) seen.add((long) w.count(what));
        for (int what = 0; what < 8; what++) seen.add(w.sum(what));
        for (int floor = 0; floor < 10; floor++) seen.add((long) w.fare(floor));
        int fountains = w.count(0), jars = w.count(1), men = w.count(2), kept = Math.min(2, w.count(6));
        for (int what = 0; what < 4; what++) {
            for (int which = 0; which < (what % 2 == 0 ? fountains : jars); which++) seen.add((long) w.water(which, what));
        }
        for (int m = 0; m < men; m++) {
            for (int what = 0; what < 8; what++) seen.add((long) w.told(m, what));
            seen.add((long) w.given(m));
        }
        for (int i = 0; i < kept; i++) {
            for (int what = 0; what < 6; what++) seen.add((long) w.poured(i, what));
        }
        for (int f = 0; f < fountains; f++) seen.add((long) w.foul(f, 0));
    }

    // ---- cities in which much can be changed

    /** Two FOUNTAINS, three JARS, five MEN of all KINDS: MAN 0 goes up, MEN 3 and 4 wait, a price is begun on THE TAPE. */
    private static WaterMen busyCity() {
        WaterMen w = withFountains(20, 7);
        w.jar(0, 30, 5, 6, 0, 0);
        w.jar(5, 30, 1, 2, 0, 0);
        w.jar(9, 30, 2, 3, 0, 0);
        w.man(0, 5, 0, 0);
        w.man(1, 5, 0, 1);
        w.man(2, 9, 1, 2);
        w.man(0, 40, 0, 0);
        w.man(0, 40, 0, 0);
        w.right(1, 2);
        w.pace(2, 3);
        w.drinks(0, 2);
        w.drinks(1, 3);
        w.drought(90);
        faresOf(w, "0-9:3;5:4");
        w.give(1, 0, 2);
        w.run(5);
        w.open(1, false);
        typeText(w, "0-4:");
        return w;
    }

    /** The busy city when MAN 0 goes down. */
    private static WaterMen downCity() {
        WaterMen w = busyCity();
        w.run(3);
        due("he goes down", w.told(0, 0), 2);
        return w;
    }

    /** All that can come has come: FOUNTAINS, JARS, MEN, the bytes of THE TAPE, THE TIME. */
    private static WaterMen fullCity() {
        WaterMen w = withFountains(5, 6, 7, 8);
        for (int j = 0; j < 8; j++) w.jar(j, 50, 1, 2, 3, 4);
        for (int m = 0; m < 10; m++) w.man(m % 3, 5 + m, m % 4, m % 5);
        typeText(w, " ".repeat(46) + "0-4:");
        for (int i = 0; i < 40; i++) w.run(500);
        return w;
    }

    private static WaterMen nearlyFullTape() {
        WaterMen w = withFountains(5);
        typeText(w, " ".repeat(44) + "0-4:");
        return w;
    }

    private static WaterMen nearlyLate() {
        WaterMen w = city(5, 0, 5, 1);
        for (int i = 0; i < 39; i++) w.run(500);
        w.run(490);
        return w;
    }
}
