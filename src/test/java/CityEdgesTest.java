/** The edges of the city: the document's part 1 and promises 1 to 10, a test for each sentence that names one. */
public final class CityEdgesTest extends Edges {
    public static void main(String[] args) {
        ofANewObject();
        ofFountains();
        ofJars();
        ofMen();
        ofWays();
        ofMoves();
        end();
    }

    // ---- a new object

    private static void ofANewObject() {
        sentence("1 Nothing is there", CityEdgesTest::nothingIsThere);
        sentence("1 Nothing is there (of another object either)", CityEdgesTest::nothingOfAnother);
        sentence("1 no DROUGHT (p 100)", CityEdgesTest::noDroughtAtFirst);
    }

    private static void nothingIsThere() {
        WaterMen w = new WaterMen();
        dueCounts(w, "new", 0, 0, 0, 0, 0, 0, 0);
        dueSums(w, "new", 0, 0, 0, 0, 0, 0, 0, 0);
        for (int what = 0; what < 4; what++) due("water(0, " + what + ")", w.water(0, what), -1);
        for (int what = 0; what < 9; what++) due("told(0, " + what + ")", w.told(0, what), -1);
        due("given(0)", w.given(0), -1);
        due("open(0)", w.open(0, true), -1);
        due("drinks(0)", w.drinks(0, 0), -1);
        due("right(0)", w.right(0, 0), -1);
        due("moves(0)", w.moves(0, 0, 0), -1);
        due("fire(0)", w.fire(0, 0), -1);
        due("foul(0)", w.foul(0, 0), -1);
        due("poured(0)", w.poured(0, 0), -4);
        due("the tape has no byte", w.fares(), -20);
    }

    private static void nothingOfAnother() {
        WaterMen other = cityOfLoads(1, 5, 5);
        other.drought(7);
        other.give(0, 0, 1);
        typeText(other, "0:5");
        other.run(2);
        nothingIsThere();
        WaterMen w = new WaterMen();
        due("its own drought", w.drought(100), 100);
        due("its own tape", typeText(w, "0:7"), 3);
        due("the other's tape", other.fares(), 1);
        due("the other's price", other.fare(0), 5);
        due("its own first price", w.fare(0), 1);
        due("its own clauses", w.fares(), 1);
        due("its own price", w.fare(0), 7);
    }

    private static void noDroughtAtFirst() {
        due("what it was", new WaterMen().drought(3), 100);
        WaterMen w = withFountains(20);
        w.run(1);
        due("all flows", w.water(0, 0), 20);
    }

    // ---- FOUNTAINS

    private static void ofFountains() {
        sentence("FOUNTAINS 0 .. 3, as they come", CityEdgesTest::fountainsAsTheyCome);
        sentence("have a FLOW (1 .. 20 measures a minute)", CityEdgesTest::flows);
        sentence("(FOUNTAINS) WATER (0 at first", CityEdgesTest::fountainsAreEmptyAtFirst);
        sentence("300 at most", CityEdgesTest::threeHundredAtMost);
        sentence("what flows beyond runs off", CityEdgesTest::beyondRunsOff);
        sentence("are OPEN (at first) or shut", CityEdgesTest::openAtFirst);
        sentence("2 NOT: some JAR is there", CityEdgesTest::noFountainBehindAJar);
        sentence("2 FULL: 4", CityEdgesTest::fifthFountain);
        sentence("9 whether it was OPEN (1, 0)", CityEdgesTest::whetherItWasOpen);
        sentence("9 BAD", CityEdgesTest::opensNoOther);
        sentence("10 (0 .. 100; 100 none): what it was", CityEdgesTest::droughts);
        sentence("10 BAD", () -> dueBadOutside("drought", 0, 100, p -> withFountains(20).drought(p)));
    }

    private static void fountainsAsTheyCome() {
        WaterMen w = new WaterMen();
        for (int f = 0; f < 4; f++) {
            due("none has number " + f + " yet", w.water(f, 0), -1);
            due("fountain " + f, w.fountain(11 + f), f);
        }
        w.run(1);
        for (int f = 0; f < 4; f++) due("flow of " + f, w.water(f, 0), 11 + f);
        due("none has number 4", w.water(4, 0), -1);
    }

    private static void flows() {
        for (int flow = 1; flow <= 20; flow++) {
            WaterMen w = new WaterMen();
            due("flow " + flow, w.fountain(flow), 0);
            w.run(1);
            due("a minute of " + flow, w.water(0, 0), flow);
        }
        WaterMen w = new WaterMen();
        dueBadOutside("fountain", 1, 20, w::fountain);
        due("none came", w.count(0), 0);
    }

    private static void fountainsAreEmptyAtFirst() {
        WaterMen w = withFountains(1, 5, 19, 20);
        for (int f = 0; f < 4; f++) {
            due("water of " + f, w.water(f, 0), 0);
            due("ran off of " + f, w.water(f, 2), 0);
        }
    }

    private static void threeHundredAtMost() {
        WaterMen w = withFountains(1, 20, 13, 7);
        w.run(299);
        due("not yet 300", w.water(0, 0), 299);
        w.run(1);
        due("300 by ones", w.water(0, 0), 300);
        w.run(500);
        for (int f = 0; f < 4; f++) due("no more of " + f, w.water(f, 0), 300);
    }

    private static void beyondRunsOff() {
        WaterMen w = withFountains(20, 7);
        w.run(15);
        due("just 300: nothing", w.water(0, 2), 0);
        w.run(1);
        due("all of a minute", w.water(0, 2), 20);
        w.run(26);
        due("294: nothing", w.water(1, 2), 0);
        w.run(1);
        due("a part of a minute", w.water(1, 2), 1);
        w.run(1);
        due("then all", w.water(1, 2), 8);
        due("of both", w.sum(1), (44 - 15) * 20 + 8);
    }

    private static void openAtFirst() {
        WaterMen w = withFountains(3, 3, 3, 3);
        for (int f = 0; f < 4; f++) due("fountain " + f, w.open(f, false), 1);
        w.run(2);
        for (int f = 0; f < 4; f++) due("shut " + f, w.water(f, 0), 0);
    }

    private static void noFountainBehindAJar() {
        WaterMen w = withFountains(3);
        due("ahead of a jar", w.fountain(3), 1);
        w.jar(0, 1, 1, 1, 0, 0);
        due("behind a jar", w.fountain(3), -2);
        due("two are there", w.count(0), 2);
    }

    private static void fifthFountain() {
        WaterMen w = withFountains(3, 3, 3);
        due("fourth", w.fountain(3), 3);
        due("fifth", w.fountain(3), -3);
        due("sixth", w.fountain(3), -3);
        due("four are there", w.count(0), 4);
    }

    private static void whetherItWasOpen() {
        WaterMen w = withFountains(3, 3);
        due("open, shut now", w.open(1, false), 1);
        due("shut, shut again", w.open(1, false), 0);
        due("shut, open now", w.open(1, true), 0);
        due("open, open again", w.open(1, true), 1);
        due("the other one's own", w.open(0, true), 1);
    }

    private static void opensNoOther() {
        WaterMen w = withFountains(3, 3);
        dueBadOutside("open", 0, 1, f -> w.open(f, false));
        dueBadOutside("open", 0, 1, f -> w.open(f, true));
        due("these are as they were", w.open(0, true) + w.open(1, true), 2);
    }

    private static void droughts() {
        WaterMen w = withFountains(20);
        int was = 100;
        for (int p = 0; p <= 100; p++) {
            due("drought(" + p + ")", w.drought(p), was);
            was = p;
        }
        w.run(1);
        due("100 none", w.water(0, 0), 20);
        w.drought(0);
        w.run(1);
        due("0 dry", w.water(0, 0), 20);
    }

    // ---- JARS

    private static void ofJars() {
        sentence("JARS 0 .. 7, as they come", CityEdgesTest::jarsAsTheyCome);
        sentence("stand on a FLOOR (0 .. 9)", CityEdgesTest::floors);
        sentence("so many minutes (1 .. 30) away from each FOUNTAIN (told for each)", CityEdgesTest::minutesAway);
        sentence("hold so much (1 .. 200)", CityEdgesTest::holds);
        sentence("(JARS) have WATER (0 at first)", CityEdgesTest::jarsAreEmptyAtFirst);
        sentence("a JAR DRINKS 0 .. 9 each minute", CityEdgesTest::drinksSoMuch);
        sentence("(as far as it has)", CityEdgesTest::drinksAsFarAsItHas);
        sentence("3 (those that are there alone looked at)", CityEdgesTest::thoseThereAreLookedAt);
        sentence("3 NOT: no FOUNTAIN is there", CityEdgesTest::noJarAheadOfAFountain);
        sentence("3 FULL: 8", CityEdgesTest::ninthJar);
        sentence("4 What a JAR DRINKS: what it was", CityEdgesTest::whatItDrank);
        sentence("4 BAD", CityEdgesTest::noSuchDrinking);
    }

    private static void jarsAsTheyCome() {
        WaterMen w = withFountains(3);
        for (int j = 0; j < 8; j++) {
            due("none has number " + j + " yet", w.water(j, 1), -1);
            due("jar " + j, w.jar(0, 5, 1 + j, 0, 0, 0), j);
        }
        due("none has number 8", w.water(8, 1), -1);
        w.man(0, 1, 0, 0);
        for (int j = 0; j < 8; j++) {
            w.moves(0, 0, j);
            due("minutes of " + j, w.told(0, 7), 1 + j);
        }
    }

    private static void floors() {
        for (int floor = 0; floor <= 9; floor++) due("floor " + floor, withFountains(3).jar(floor, 5, 1, 0, 0, 0), 0);
        WaterMen w = withFountains(3);
        dueBadOutside("jar on a floor", 0, 9, floor -> w.jar(floor, 5, 1, 1, 1, 1));
        due("none came", w.count(1), 0);
    }

    private static void minutesAway() {
        WaterMen w = withFountains(3, 3, 3, 3);
        dueBadOutside("jar from 0", 1, 30, minutes -> w.jar(0, 5, minutes, 1, 1, 1));
        dueBadOutside("jar from 1", 1, 30, minutes -> w.jar(0, 5, 1, minutes, 1, 1));
        dueBadOutside("jar from 2", 1, 30, minutes -> w.jar(0, 5, 1, 1, minutes, 1));
        dueBadOutside("jar from 3", 1, 30, minutes -> w.jar(0, 5, 1, 1, 1, minutes));
        due("none came", w.count(1), 0);
        due("1 and 30", w.jar(0, 5, 1, 30, 2, 29), 0);
        due("30 and 1", w.jar(0, 5, 30, 1, 29, 2), 1);
        int[][] told = {{1, 30, 2, 29}, {30, 1, 29, 2}};
        w.man(0, 1, 0, 0);
        for (int j = 0; j < 2; j++) {
            for (int f = 0; f < 4; f++) {
                w.moves(0, f, j);
                due("jar " + j + " from " + f, w.told(0, 7), told[j][f]);
            }
        }
    }

    private static void holds() {
        WaterMen w = withFountains(20);
        dueBadOutside("jar that holds", 1, 200, holds -> w.jar(0, holds, 1, 1, 1, 1));
        due("none came", w.count(1), 0);
        due("1", w.jar(0, 1, 1, 0, 0, 0), 0);
        due("200", w.jar(0, 200, 1, 0, 0, 0), 1);
        w.man(0, 3, 0, 0);
        w.run(21);
        due("one measure, no more", w.water(0, 1), 1);
        w.moves(0, 0, 1);
        w.run(300);
        due("two hundred, no more", w.water(1, 1), 200);
        due("all poured", w.sum(3), 201);
    }

    private static void jarsAreEmptyAtFirst() {
        WaterMen w = withFountains(20);
        for (int j = 0; j < 8; j++) {
            w.jar(j, 1 + j, 1, 0, 0, 0);
            w.drinks(j, 9);
        }
        w.run(3);
        for (int j = 0; j < 8; j++) {
            due("water of " + j, w.water(j, 1), 0);
            due("drunk of " + j, w.water(j, 3), 0);
        }
    }

    /** A city whose JAR has 30 measures, poured in minute 3; its MAN is shut off then. */
    private static WaterMen jarOfThirty() {
        WaterMen w = cityOfLoads(1, 30);
        w.run(4);
        w.open(0, false);
        return w;
    }

    private static void drinksSoMuch() {
        for (int n = 0; n <= 9; n++) {
            WaterMen w = jarOfThirty();
            due("drinks " + n, w.drinks(0, n), 0);
            w.run(3);
            due("what is left by " + n, w.water(0, 1), 30 - 3 * n);
            due("what was drunk by " + n, w.water(0, 3), 3 * n);
        }
    }

    private static void drinksAsFarAsItHas() {
        WaterMen w = jarOfThirty();
        w.drinks(0, 9);
        w.run(3);
        due("three are left", w.water(0, 1), 3);
        w.run(1);
        due("these alone are drunk", w.water(0, 3), 30);
        w.run(4);
        due("then nothing", w.water(0, 3), 30);
        due("none is left", w.water(0, 1), 0);
        due("all told", w.sum(4), 30);
    }

    private static void thoseThereAreLookedAt() {
        due("one fountain", withFountains(3).jar(0, 5, 1, 0, -1, 31), 0);
        due("two fountains", withFountains(3, 3).jar(0, 5, 1, 30, 0, Integer.MAX_VALUE), 0);
        due("three fountains", withFountains(3, 3, 3).jar(0, 5, 1, 30, 1, Integer.MIN_VALUE), 0);
        due("the second of two", withFountains(3, 3).jar(0, 5, 1, 31, 0, 0), -1);
        due("the third of three", withFountains(3, 3, 3).jar(0, 5, 1, 1, 0, 0), -1);
        due("the fourth of four", withFountains(3, 3, 3, 3).jar(0, 5, 1, 1, 1, 0), -1);
    }

    private static void noJarAheadOfAFountain() {
        WaterMen w = new WaterMen();
        due("no fountain", w.jar(0, 5, 1, 1, 1, 1), -2);
        due("no fountain, no minutes to look at", w.jar(9, 200, 0, 31, -1, 99), -2);
        due("none came", w.count(1), 0);
        w.fountain(3);
        due("a fountain", w.jar(0, 5, 1, 1, 1, 1), 0);
    }

    private static void ninthJar() {
        WaterMen w = withFountains(3);
        for (int j = 0; j < 7; j++) w.jar(0, 5, 1, 0, 0, 0);
        due("eighth", w.jar(0, 5, 1, 0, 0, 0), 7);
        due("ninth", w.jar(0, 5, 1, 0, 0, 0), -3);
        due("eight are there", w.count(1), 8);
    }

    private static void whatItDrank() {
        WaterMen w = city(3, 0, 5, 1);
        w.jar(0, 5, 1, 0, 0, 0);
        due("nothing at first", w.drinks(1, 9), 0);
        due("then 9", w.drinks(1, 0), 9);
        due("then 0", w.drinks(1, 4), 0);
        due("the other one's own", w.drinks(0, 0), 0);
    }

    private static void noSuchDrinking() {
        WaterMen w = city(3, 0, 5, 1);
        w.drinks(0, 6);
        dueBadOutside("drinks so much", 0, 9, n -> w.drinks(0, n));
        dueBadOutside("drinks of a jar", 0, 0, j -> w.drinks(j, 3));
        due("as it was", w.drinks(0, 0), 6);
    }

    // ---- MEN

    private static void ofMen() {
        sentence("MEN 0 .. 9, as they come", CityEdgesTest::menAsTheyCome);
        sentence("are of KINDS 0 MAN, below it 1 STRONG, 2 DONKEY", CityEdgesTest::kinds);
        sentence("each carries LOAD (1 .. 40) at most", CityEdgesTest::loads);
        sentence("belongs to a FOUNTAIN and a JAR", CityEdgesTest::belongs);
        sentence("has a RIGHT (0 .. 3; 0 at first)", CityEdgesTest::rights);
        sentence("A MAN can't go to a FLOOR above 4 (a STRONG one, a DONKEY can)", CityEdgesTest::floorsAboveFour);
        sentence("5 NOT: he can't go to that FLOOR", CityEdgesTest::noManForThatFloor);
        sentence("5 FULL: 10", CityEdgesTest::eleventhMan);
        sentence("6 A RIGHT: what it was", CityEdgesTest::whatTheRightWas);
        sentence("6 BAD", CityEdgesTest::noSuchRight);
        sentence("7 The PACE of a DONKEY (1 .. 5; 2 at first): what it was", CityEdgesTest::paces);
        sentence("7 BAD", CityEdgesTest::noSuchPace);
        sentence("7 CAST", CityEdgesTest::noDonkey);
    }

    private static void menAsTheyCome() {
        WaterMen w = city(3, 0, 5, 1);
        for (int m = 0; m < 10; m++) {
            due("none has number " + m + " yet", w.told(m, 0), -1);
            due("man " + m, w.man(m % 3, 1 + m, 0, 0), m);
            due("kind of " + m, w.told(m, 8), m % 3);
        }
        due("none has number 10", w.told(10, 0), -1);
    }

    private static void kinds() {
        WaterMen w = city(3, 9, 5, 1);
        dueBadOutside("man of a kind", 0, 2, kind -> w.man(kind, 5, 0, 0));
        due("none came", w.count(2), 0);
        for (int kind = 0; kind < 3; kind++) {
            WaterMen v = city(3, 0, 5, 1);
            due("kind " + kind, v.man(kind, 5, 0, 0), 0);
            due("told " + kind, v.told(0, 8), kind);
            due("only a donkey has a pace: " + kind, v.pace(0, 3), kind == 2 ? 2 : -13);
        }
    }

    private static void loads() {
        for (int load = 1; load <= 40; load++) {
            WaterMen w = cityOfLoads(9);
            due("load " + load, w.man(0, load, 0, 0), 0);
            w.run((load + 9) / 10);
            dueMan(w, "full with " + load, 0, 1, 9, load);
            due("taken by " + load, w.sum(2), load);
        }
        WaterMen w = cityOfLoads(9);
        dueBadOutside("man with a load", 1, 40, load -> w.man(0, load, 0, 0));
        due("none came", w.count(2), 0);
    }

    private static void belongs() {
        WaterMen w = withFountains(3, 3, 3);
        for (int j = 0; j < 5; j++) w.jar(0, 5, 1, 2, 3, 0);
        dueBadOutside("man of a fountain", 0, 2, f -> w.man(0, 5, f, 0));
        dueBadOutside("man of a jar", 0, 4, j -> w.man(0, 5, 0, j));
        due("none came", w.count(2), 0);
        due("the first ones", w.man(0, 5, 0, 0), 0);
        due("the last ones", w.man(0, 5, 2, 4), 1);
        due("his fountain", w.told(1, 4), 2);
        due("his jar", w.told(1, 5), 4);
    }

    private static void rights() {
        WaterMen w = cityOfLoads(1, 5, 5);
        due("0 at first", w.right(0, 0), 0);
        due("0 at first", w.right(1, 1), 0);
        due("1 is above 0", w.told(0, 1), 1);
        due("2", w.right(0, 2), 0);
        due("2 is above 1", w.told(1, 1), 1);
        due("3", w.right(1, 3), 1);
        due("3 is above 2", w.told(0, 1), 1);
        due("back to 0", w.right(1, 0), 3);
        due("0 is below 2", w.told(1, 1), 1);
    }

    private static void floorsAboveFour() {
        for (int floor = 0; floor <= 9; floor++) {
            boolean high = floor > 4;
            due("a man to " + floor, city(3, floor, 5, 1).man(0, 5, 0, 0), high ? -2 : 0);
            due("a strong one to " + floor, city(3, floor, 5, 1).man(1, 5, 0, 0), 0);
            due("a donkey to " + floor, city(3, floor, 5, 1).man(2, 5, 0, 0), 0);
            for (int kind = 0; kind < 3; kind++) {
                WaterMen w = city(3, 0, 5, 1);
                w.jar(floor, 5, 1, 0, 0, 0);
                w.man(kind, 5, 0, 0);
                boolean can = kind > 0 || !high;
                due("given, kind " + kind + " to " + floor, w.give(0, 1, 1) >= 0 ? 1 : 0, can ? 1 : 0);
                due("moved, kind " + kind + " to " + floor, w.moves(0, 0, 1), can ? 1 : -2);
            }
        }
    }

    private static void noManForThatFloor() {
        WaterMen w = city(3, 5, 5, 1);
        w.jar(4, 5, 1, 0, 0, 0);
        due("floor 5", w.man(0, 5, 0, 0), -2);
        due("none came", w.count(2), 0);
        due("none waits", w.count(3), 0);
        due("floor 4", w.man(0, 5, 0, 1), 0);
        due("nobody is ahead of him", w.told(0, 1), 0);
    }

    private static void eleventhMan() {
        WaterMen w = cityOfLoads(1, 1, 1, 1, 1, 1, 1, 1, 1, 1);
        due("tenth", w.man(0, 5, 0, 0), 9);
        for (int kind = 0; kind < 3; kind++) due("eleventh, kind " + kind, w.man(kind, 5, 0, 0), -3);
        due("ten are there", w.count(2), 10);
        due("ten wait", w.count(3), 10);
    }

    private static void whatTheRightWas() {
        WaterMen w = cityOfLoads(1, 5, 5);
        int[] rights = {3, 1, 2, 2, 0, 3, 0};
        int was = 0;
        for (int r : rights) {
            due("right " + r, w.right(1, r), was);
            was = r;
        }
        due("the other one's own", w.right(0, 0), 0);
    }

    private static void noSuchRight() {
        WaterMen w = cityOfLoads(1, 5, 5);
        w.right(1, 2);
        dueBadOutside("right", 0, 3, r -> w.right(1, r));
        dueBadOutside("right of a man", 0, 1, m -> w.right(m, 1));
        due("as it was", w.right(1, 0), 2);
        due("as it was", w.right(0, 0), 0);
    }

    private static void paces() {
        WaterMen w = city(3, 9, 5, 30);
        w.man(2, 5, 0, 0);
        w.man(2, 5, 0, 0);
        due("by 2 at first", w.told(0, 7), 15);
        int[] ways = {30, 15, 10, 8, 6};
        int was = 2;
        for (int p = 1; p <= 5; p++) {
            due("pace " + p, w.pace(0, p), was);
            due("way by " + p, w.told(0, 7), ways[p - 1]);
            was = p;
        }
        due("the other one's own", w.pace(1, 2), 2);
    }

    private static void noSuchPace() {
        WaterMen w = city(3, 9, 5, 30);
        w.man(2, 5, 0, 0);
        w.pace(0, 4);
        dueBadOutside("pace", 1, 5, p -> w.pace(0, p));
        dueBadOutside("pace of a man", 0, 0, m -> w.pace(m, 1));
        due("as it was", w.pace(0, 1), 4);
    }

    private static void noDonkey() {
        WaterMen w = city(3, 3, 5, 30);
        for (int kind = 0; kind < 3; kind++) w.man(kind, 5, 0, 0);
        for (int p = 1; p <= 5; p++) {
            due("a man's " + p, w.pace(0, p), -13);
            due("a strong one's " + p, w.pace(1, p), -13);
        }
        due("a man's way", w.told(0, 7), 30);
        due("a strong one's way", w.told(1, 7), 30);
        due("a donkey's", w.pace(2, 1), 2);
    }

    // ---- THE WAY

    private static void ofWays() {
        sentence("THE WAY of a MAN up: the minutes, and as many more as the FLOOR", CityEdgesTest::aMansWayUp);
        sentence("(a STRONG one half of these, cut up)", CityEdgesTest::aStrongOnesWayUp);
        sentence("down: the minutes", CityEdgesTest::waysDown);
        sentence("A DONKEY takes the minutes by its PACE, cut up, both ways", CityEdgesTest::aDonkeysWays);
        sentence("(A DONKEY) none for the FLOOR", CityEdgesTest::aDonkeysFloors);
    }

    private static WaterMen oneOf(int kind, int floor, int minutes) {
        WaterMen w = city(3, floor, 5, minutes);
        w.man(kind, 5, 0, 0);
        return w;
    }

    private static void aMansWayUp() {
        for (int floor = 0; floor <= 4; floor++) {
            due("1 minute, floor " + floor, oneOf(0, floor, 1).told(0, 6), 1 + floor);
            due("30 minutes, floor " + floor, oneOf(0, floor, 30).told(0, 6), 30 + floor);
        }
    }

    private static void aStrongOnesWayUp() {
        int[] halves = {0, 1, 1, 2, 2, 3, 3, 4, 4, 5};
        for (int floor = 0; floor <= 9; floor++) {
            due("1 minute, floor " + floor, oneOf(1, floor, 1).told(0, 6), 1 + halves[floor]);
            due("30 minutes, floor " + floor, oneOf(1, floor, 30).told(0, 6), 30 + halves[floor]);
        }
    }

    private static void waysDown() {
        for (int minutes = 1; minutes <= 30; minutes++) {
            due("a man's " + minutes, oneOf(0, 4, minutes).told(0, 7), minutes);
            due("a strong one's " + minutes, oneOf(1, 9, minutes).told(0, 7), minutes);
        }
    }

    private static void aDonkeysWays() {
        for (int minutes = 1; minutes <= 30; minutes++) {
            WaterMen w = oneOf(2, 0, minutes);
            for (int pace = 1; pace <= 5; pace++) {
                int way = 1;
                while (way * pace < minutes) way++;
                w.pace(0, pace);
                due(minutes + " by " + pace + " up", w.told(0, 6), way);
                due(minutes + " by " + pace + " down", w.told(0, 7), way);
            }
        }
    }

    private static void aDonkeysFloors() {
        for (int floor = 0; floor <= 9; floor++) {
            due("up to " + floor, oneOf(2, floor, 7).told(0, 6), 4);
            due("down from " + floor, oneOf(2, floor, 7).told(0, 7), 4);
        }
    }

    // ---- moves

    private static void ofMoves() {
        sentence("8 He belongs to another FOUNTAIN, JAR: 1", CityEdgesTest::movesAnswer);
        sentence("8 BAD", CityEdgesTest::movesNowhere);
        sentence("8 NOT: he is in no ROW", CityEdgesTest::movesFromARowAlone);
        sentence("8 or can't go to that FLOOR", CityEdgesTest::movesNotSoHigh);
    }

    private static void movesAnswer() {
        WaterMen w = withFountains(3, 3);
        w.jar(0, 5, 1, 2, 0, 0);
        w.jar(1, 5, 3, 4, 0, 0);
        w.man(0, 5, 0, 0);
        due("both", w.moves(0, 1, 1), 1);
        dueMan(w, "both", 0, 0, 0, 0, 0, 1, 1, 5, 4);
        due("the fountain alone", w.moves(0, 0, 1), 1);
        dueMan(w, "the fountain alone", 0, 0, 0, 0, 0, 0, 1, 4, 3);
        due("the jar alone", w.moves(0, 0, 0), 1);
        dueMan(w, "the jar alone", 0, 0, 0, 0, 0, 0, 0, 1, 1);
        due("neither", w.moves(0, 0, 0), 1);
        dueMan(w, "neither", 0, 0, 0, 0, 0, 0, 0, 1, 1);
        due("once in a row", w.count(3), 1);
    }

    private static void movesNowhere() {
        WaterMen w = withFountains(3, 3);
        for (int j = 0; j < 3; j++) w.jar(0, 5, 1, 2, 0, 0);
        w.man(0, 5, 1, 2);
        dueBadOutside("moves a man", 0, 0, m -> w.moves(m, 0, 0));
        dueBadOutside("moves to a fountain", 0, 1, f -> w.moves(0, f, 0));
        dueBadOutside("moves to a jar", 0, 2, j -> w.moves(0, 0, j));
        due("his fountain as it was", w.told(0, 4), 1);
        due("his jar as it was", w.told(0, 5), 2);
    }

    private static void movesFromARowAlone() {
        WaterMen w = cityOfLoads(2, 10);
        w.jar(0, 5, 9, 0, 0, 0);
        due("in a row", w.moves(0, 0, 0), 1);
        int[] does = {1, 1, 2, 2};
        for (int minute = 0; minute < does.length; minute++) {
            w.run(1);
            due("what he does", w.told(0, 0), does[minute]);
            due("in no row", w.moves(0, 0, 1), -2);
            due("his jar as it was", w.told(0, 5), 0);
        }
        w.run(1);
        due("what he does", w.told(0, 0), 0);
        due("in a row again", w.moves(0, 0, 1), 1);
    }

    private static void movesNotSoHigh() {
        WaterMen w = city(3, 0, 5, 1);
        w.jar(4, 5, 1, 0, 0, 0);
        w.jar(5, 5, 1, 0, 0, 0);
        w.man(0, 5, 0, 0);
        w.man(0, 5, 0, 0);
        due("floor 4", w.moves(0, 0, 1), 1);
        due("floor 5", w.moves(1, 0, 2), -2);
        due("his jar as it was", w.told(1, 5), 0);
        due("nor is he put behind", w.told(1, 1), 0);
    }
}
