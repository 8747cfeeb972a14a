/** The edges of minutes: the document's part 2 and promises 14 to 18, a test for each sentence that names one. */
public final class MinutesEdgesTest extends Edges {
    public static void main(String[] args) {
        ofFlowing();
        ofFilling();
        ofWalking();
        ofPouring();
        ofComingAndMoving();
        ofFires();
        ofTime();
        ofLooks();
        end();
    }

    // ---- gaining

    private static void ofFlowing() {
        sentence("Each FOUNTAIN that is OPEN gains its FLOW", MinutesEdgesTest::onlyOpenOnesGain);
        sentence("(in a DROUGHT of p hundredths FLOW p by 100, cut down)", MinutesEdgesTest::droughtsCutDown);
    }

    private static void onlyOpenOnesGain() {
        WaterMen w = withFountains(3, 20, 7);
        w.open(1, false);
        w.run(4);
        due("open", w.water(0, 0), 12);
        due("shut", w.water(1, 0), 0);
        due("open", w.water(2, 0), 28);
        due("flowed", w.sum(0), 40);
        w.open(1, true);
        w.run(1);
        due("open again", w.water(1, 0), 20);
        w.run(14);
        w.open(1, false);
        w.run(9);
        due("shut with all it can have", w.water(1, 0), 300);
        due("nothing runs off of a shut one", w.water(1, 2), 0);
    }

    private static void droughtsCutDown() {
        for (int flow : new int[] {1, 7, 19, 20}) {
            WaterMen w = withFountains(flow);
            long flowed = 0;
            for (int p = 0; p <= 100; p++) {
                int part = 0;
                while ((part + 1) * 100 <= flow * p) part++;
                w.drought(p);
                w.run(1);
                flowed += part;
                due("flow " + flow + " in a drought of " + p, w.sum(0), flowed);
            }
        }
    }

    // ---- filling

    private static void ofFilling() {
        sentence("of those in its ROW the one of the greatest RIGHT", MinutesEdgesTest::greatestRight);
        sentence("of like ones who came first", MinutesEdgesTest::whoCameFirst);
        sentence("fills: as much as there is", MinutesEdgesTest::asMuchAsThereIs);
        sentence("(as much as) he can take", MinutesEdgesTest::asMuchAsHeCanTake);
        sentence("and 10 are", MinutesEdgesTest::tenAMinute);
        sentence("who is full then leaves the ROW, and GOES UP", MinutesEdgesTest::fullOnesLeave);
        sentence("(Shut: nobody fills", MinutesEdgesTest::shutNobodyFills);
        sentence("(Shut: nobody) leaves.)", MinutesEdgesTest::shutNobodyLeaves);
    }

    private static void greatestRight() {
        WaterMen w = cityOfLoads(9, 5, 5, 5, 5);
        for (int m = 0; m < 4; m++) w.right(m, m);
        for (int m = 3; m >= 0; m--) {
            w.run(1);
            dueMan(w, "he goes in his turn", m, 1, 9, 5);
            due("one in each minute", w.count(4), 4 - m);
        }
        WaterMen v = cityOfLoads(9, 15, 15);
        v.run(1);
        v.right(1, 1);
        v.run(1);
        due("a greater right goes ahead of one who has begun", v.told(1, 2), 10);
        due("who waits then", v.told(0, 2), 10);
    }

    private static void whoCameFirst() {
        WaterMen w = cityOfLoads(9, 5, 5, 5);
        for (int m = 0; m < 3; m++) w.right(m, 2);
        w.moves(0, 0, 0);
        int[] turns = {1, 2, 0};
        for (int m : turns) {
            w.run(1);
            dueMan(w, "he goes in his turn", m, 1, 9, 5);
        }
    }

    private static void asMuchAsThereIs() {
        WaterMen w = city(3, 0, 200, 9);
        w.man(0, 8, 0, 0);
        w.run(1);
        dueMan(w, "three are there", 0, 0, 0, 3);
        due("none is left", w.water(0, 0), 0);
        w.drought(0);
        w.run(5);
        dueMan(w, "none is there", 0, 0, 0, 3);
        w.drought(34);
        w.run(1);
        dueMan(w, "one is there", 0, 0, 0, 4);
        due("filled", w.sum(2), 4);
    }

    private static void asMuchAsHeCanTake() {
        for (int load = 1; load <= 10; load++) {
            WaterMen w = cityOfLoads(9, load);
            w.run(1);
            dueMan(w, "full", 0, 1, 9, load);
            due("the rest stays", w.water(0, 0), 20 - load);
        }
        WaterMen w = cityOfLoads(9, 23);
        w.run(3);
        dueMan(w, "three are wanting in the third minute", 0, 1, 9, 23);
        due("the rest stays", w.water(0, 0), 37);
    }

    private static void tenAMinute() {
        int[] flows = {9, 10, 11, 20};
        int[] filled = {9, 10, 10, 10};
        for (int i = 0; i < flows.length; i++) {
            WaterMen w = city(flows[i], 0, 200, 9);
            w.man(0, 40, 0, 0);
            w.run(1);
            due("of " + flows[i], w.told(0, 2), filled[i]);
            due("what is left of " + flows[i], w.water(0, 0), flows[i] - filled[i]);
        }
        WaterMen w = cityOfLoads(9, 5, 40);
        w.run(1);
        due("who is next waits, though ten are not filled", w.told(1, 2), 0);
    }

    private static void fullOnesLeave() {
        WaterMen w = cityOfLoads(9, 10);
        w.run(1);
        dueMan(w, "just full", 0, 1, 9, 10);
        due("in no row", w.count(3), 0);
        w = cityOfLoads(9, 11);
        w.run(1);
        dueMan(w, "one is wanting", 0, 0, 0, 10);
        w.run(1);
        dueMan(w, "full", 0, 1, 9, 11);
        // MAN 1 comes to a full JAR and back with all; MAN 0, who has nothing, would be ahead of him but for his RIGHT.
        w = city(1, 0, 1, 1);
        w.man(0, 1, 0, 0);
        w.man(0, 1, 0, 0);
        w.run(2);
        w.drought(0);
        w.right(1, 1);
        w.run(2);
        dueMan(w, "back with all", 1, 0, 0, 1);
        due("to a dry fountain", w.water(0, 0), 0);
        w.run(1);
        dueMan(w, "full, he need not fill", 1, 1, 1, 1);
        due("nor did he", w.sum(2), 2);
    }

    private static void shutNobodyFills() {
        WaterMen w = withFountains(20, 20);
        w.jar(0, 200, 9, 9, 0, 0);
        w.run(1);
        w.open(0, false);
        w.man(0, 5, 0, 0);
        w.man(0, 5, 1, 0);
        w.run(3);
        dueMan(w, "of the shut one", 0, 0, 0, 0);
        due("its water stays", w.water(0, 0), 20);
        dueMan(w, "of the open one", 1, 1, 7, 5);
    }

    private static void shutNobodyLeaves() {
        WaterMen w = city(20, 0, 1, 1);
        w.man(0, 1, 0, 0);
        w.man(0, 1, 0, 0);
        w.run(4);
        dueMan(w, "back, full", 1, 0, 0, 1);
        w.open(0, false);
        w.run(7);
        dueMan(w, "he waits", 1, 0, 0, 1);
        due("both wait", w.count(3), 2);
        w.open(0, true);
        w.run(1);
        dueMan(w, "he leaves", 1, 1, 1, 1);
        due("the other waits", w.count(3), 1);
    }

    // ---- walking

    private static void ofWalking() {
        sentence("and did so as this MINUTE began, has a minute less to go", MinutesEdgesTest::asTheMinuteBegan);
        sentence("With none left, going up, he POURS", MinutesEdgesTest::withNoneLeftHePours);
        sentence("going down, he is in the ROW of his FOUNTAIN, behind all", MinutesEdgesTest::behindAll);
        sentence("Each MAN, 0 first", MinutesEdgesTest::manZeroFirst);
    }

    private static void asTheMinuteBegan() {
        WaterMen w = cityOfLoads(2, 5);
        int[][] told = {{1, 2, 5}, {1, 1, 5}, {2, 2, 0}, {2, 1, 0}, {0, 0, 0}, {1, 2, 5}};
        for (int minute = 0; minute < told.length; minute++) {
            w.run(1);
            dueMan(w, "behind minute " + minute, 0, told[minute]);
        }
    }

    private static void withNoneLeftHePours() {
        for (int minutes : new int[] {1, 2, 30}) {
            WaterMen w = cityOfLoads(minutes, 5);
            w.run(minutes);
            dueMan(w, "a minute is left of " + minutes, 0, 1, 1, 5);
            due("nothing is poured", w.water(0, 1), 0);
            w.run(1);
            dueMan(w, "he goes down " + minutes, 0, 2, minutes, 0);
            due("all is poured", w.water(0, 1), 5);
        }
    }

    private static void behindAll() {
        WaterMen w = cityOfLoads(1, 5, 40, 40);
        w.run(2);
        dueMan(w, "he goes down", 0, 2, 1, 0);
        w.run(1);
        dueMan(w, "back, behind both", 0, 0, 2, 0);
        w.man(0, 5, 0, 0);
        due("ahead of one who came later", w.told(3, 1), 3);
        w.right(0, 1);
        due("his right counts as before", w.told(0, 1), 0);
    }

    private static void manZeroFirst() {
        WaterMen w = withFountains(20, 20);
        w.jar(0, 6, 1, 1, 0, 0);
        w.man(0, 5, 1, 0);
        w.man(0, 5, 0, 0);
        w.run(2);
        dueMan(w, "man 0 pours first", 0, 2, 1, 0, 5);
        dueMan(w, "man 1 pours what it takes then", 1, 2, 1, 4, 1);
        WaterMen v = withFountains(20);
        v.jar(0, 200, 1, 0, 0, 0);
        v.jar(0, 200, 2, 0, 0, 0);
        v.man(0, 1, 0, 0);
        v.man(0, 1, 0, 1);
        v.man(0, 40, 0, 0);
        v.right(1, 1);
        // MAN 1 fills in minute 0, MAN 2 begins in minute 1, MAN 0 fills in minute 2: both come back in minute 4.
        v.run(1);
        v.right(2, 1);
        v.run(1);
        v.right(0, 2);
        v.run(1);
        v.right(0, 0);
        v.right(1, 0);
        v.right(2, 0);
        v.run(2);
        due("both are back", v.told(0, 0) + v.told(1, 0), 0);
        due("man 2 never left", v.told(2, 1), 0);
        due("man 0 came first in that minute", v.told(0, 1), 1);
        due("man 1 then", v.told(1, 1), 2);
    }

    // ---- pouring and drinking

    private static void ofPouring() {
        sentence("as much as the JAR takes", MinutesEdgesTest::asMuchAsTheJarTakes);
        sentence("he earns the price of its FLOOR for each measure", MinutesEdgesTest::earns);
        sentence("what it does not take he keeps, and GOES DOWN", MinutesEdgesTest::keepsTheRest);
        sentence("Each JAR, 0 first, DRINKS", MinutesEdgesTest::drinksBehindThePouring);
    }

    private static void asMuchAsTheJarTakes() {
        for (int holds = 1; holds <= 7; holds++) {
            WaterMen w = city(20, 0, holds, 1);
            w.man(0, 5, 0, 0);
            w.run(2);
            due("into an empty one of " + holds, w.water(0, 1), Math.min(5, holds));
            w.run(3);
            due("into one of " + holds + " with some", w.water(0, 1), holds);
            w.run(3);
            due("into a full one of " + holds, w.water(0, 1), holds);
            due("poured in all", w.sum(3), holds);
        }
    }

    private static void earns() {
        int[] prices = {0, 1, 7, 99};
        for (int price : prices) {
            WaterMen w = city(20, 3, 6, 1);
            faresOf(w, "0-9:55;3:" + price);
            w.man(0, 5, 0, 0);
            w.run(4);
            due("on the way at " + price, w.told(0, 3), 0);
            w.run(1);
            due("for five at " + price, w.told(0, 3), 5 * price);
            w.run(6);
            due("for one of five at " + price, w.told(0, 3), 6 * price);
            w.run(6);
            due("for none at " + price, w.told(0, 3), 6 * price);
        }
        WaterMen w = city(20, 0, 200, 1);
        w.man(0, 5, 0, 0);
        w.run(1);
        faresOf(w, "0:9");
        w.run(1);
        due("the price when he pours", w.told(0, 3), 45);
    }

    private static void keepsTheRest() {
        WaterMen w = city(20, 2, 3, 1);
        w.man(0, 5, 0, 0);
        w.run(1 + 3);
        dueMan(w, "two of five are kept", 0, 2, 1, 2, 3);
        w.run(1);
        dueMan(w, "in the row with them", 0, 0, 0, 2, 3);
        w.run(1 + 3);
        dueMan(w, "all are kept", 0, 2, 1, 5, 3);
        due("five and three were filled", w.sum(2), 8);
    }

    private static void drinksBehindThePouring() {
        WaterMen w = city(20, 0, 5, 1);
        w.drinks(0, 3);
        w.man(0, 5, 0, 0);
        w.run(2);
        due("three of those just poured", w.water(0, 1), 2);
        WaterMen v = city(20, 0, 5, 1);
        v.man(0, 5, 0, 0);
        v.run(4);
        v.drinks(0, 3);
        v.run(1);
        dueMan(v, "it was full as he came", 0, 2, 1, 5, 5);
        due("it drank then", v.water(0, 1), 2);
    }

    // ---- coming and moving

    private static void ofComingAndMoving() {
        sentence("A MAN who comes is in the ROW at once, with nothing", MinutesEdgesTest::comesWithNothing);
        sentence("he is in the ROW of the new one, behind all, with what he carries", MinutesEdgesTest::movedBehindAll);
    }

    private static void comesWithNothing() {
        WaterMen w = city(20, 0, 200, 2);
        for (int kind = 0; kind < 3; kind++) {
            w.man(kind, 40, 0, 0);
            dueMan(w, "kind " + kind, kind, 0, kind, 0, 0);
        }
        due("all in the row", w.count(3), 3);
        w.run(1);
        due("the first fills in the next minute", w.told(0, 2), 10);
        w.open(0, false);
        w.man(0, 5, 0, 0);
        dueMan(w, "to a shut one, too", 3, 0, 3, 0, 0);
    }

    private static void movedBehindAll() {
        WaterMen w = withFountains(10, 10);
        w.jar(0, 200, 1, 2, 0, 0);
        w.man(0, 15, 0, 0);
        w.man(0, 40, 0, 0);
        w.man(0, 25, 1, 0);
        w.run(1);
        w.moves(0, 1, 0);
        dueMan(w, "behind the one who is there", 0, 0, 1, 10, 0, 1, 0);
        dueMan(w, "who has gone on", 2, 0, 0, 10, 0, 1, 0);
        due("the next of the old row", w.told(1, 1), 0);
        w.run(3);
        dueMan(w, "he took five more only", 0, 1, 2, 15, 0, 1, 0);
        w.moves(1, 0, 0);
        due("alone behind all", w.told(1, 1), 0);
        w.man(0, 5, 0, 0);
        w.moves(1, 0, 0);
        due("behind all in his own row", w.told(1, 1), 1);
    }

    // ---- fires

    private static void ofFires() {
        sentence("A FIRE at a JAR: who GOES UP to it", MinutesEdgesTest::whoGoesUpToIt);
        sentence("and has no more than w minutes to go", MinutesEdgesTest::noMoreMinutesThan);
        sentence("THROWS all he carries there", MinutesEdgesTest::throwsAll);
        sentence("and GOES DOWN, all minutes of his way down", MinutesEdgesTest::allMinutesDown);
        sentence("18 w 0 .. 60", MinutesEdgesTest::nearness);
        sentence("18 how much was THROWN by it", MinutesEdgesTest::howMuchWasThrown);
        sentence("18 BAD", MinutesEdgesTest::noFireThere);
    }

    private static void whoGoesUpToIt() {
        WaterMen w = cityOfLoads(3, 5);
        w.jar(0, 200, 3, 0, 0, 0);
        due("in a row, nothing", w.fire(0, 60), 0);
        w.open(0, false);
        w.run(1);
        w.open(0, true);
        w.run(1);
        due("to another jar", w.fire(1, 60), 0);
        dueMan(w, "he goes on", 0, 1, 3, 5);
        w.run(3);
        dueMan(w, "down", 0, 2, 3, 0);
        due("who goes down", w.fire(0, 60), 0);
        dueMan(w, "he goes on", 0, 2, 3, 0);
        w.run(4);
        due("up again", w.fire(0, 60), 5);
        downWithSome();
    }

    private static void downWithSome() {
        WaterMen w = city(20, 0, 1, 3);
        w.man(0, 5, 0, 0);
        w.run(5);
        dueMan(w, "down with some", 0, 2, 2, 4);
        due("who goes down throws nothing", w.fire(0, 60), 0);
        dueMan(w, "he goes on with it", 0, 2, 2, 4);
        w.run(2);
        dueMan(w, "in a row with some", 0, 0, 0, 4);
        due("who is in a row throws nothing", w.fire(0, 60), 0);
        dueMan(w, "he waits with it", 0, 0, 0, 4);
    }

    private static void noMoreMinutesThan() {
        for (int toGo = 1; toGo <= 30; toGo++) {
            WaterMen w = cityOfLoads(30, 5);
            w.run(31 - toGo);
            dueMan(w, "on his way", 0, 1, toGo, 5);
            due("one less than " + toGo, w.fire(0, toGo - 1), 0);
            dueMan(w, "he goes on", 0, 1, toGo, 5);
            due("just " + toGo, w.fire(0, toGo), 5);
        }
    }

    private static void throwsAll() {
        WaterMen w = cityOfLoads(3, 40);
        w.run(4);
        due("forty", w.fire(0, 60), 40);
        due("nothing is left to him", w.told(0, 2), 0);
        due("he earned nothing", w.told(0, 3), 0);
        due("nothing was poured", w.sum(3), 0);
        due("the jar has nothing", w.water(0, 1), 0);
        due("no pouring is kept", w.count(6), 0);
    }

    private static void allMinutesDown() {
        WaterMen w = city(20, 4, 200, 6);
        for (int kind = 0; kind < 3; kind++) w.man(kind, 5, 0, 0);
        w.run(3);
        due("all three", w.fire(0, 60), 15);
        int[] ways = {6, 6, 3};
        for (int kind = 0; kind < 3; kind++) dueMan(w, "kind " + kind, kind, 2, ways[kind], 0);
        w.run(2);
        dueMan(w, "a minute less in each minute", 0, 2, 4, 0);
        w.run(4);
        due("back", w.told(0, 0), 0);
    }

    private static void nearness() {
        WaterMen w = city(20, 9, 200, 30);
        w.man(1, 5, 0, 0);
        w.run(1);
        for (int near = 0; near < 35; near++) due("w " + near, w.fire(0, near), 0);
        due("w 60", w.fire(0, 60), 5);
        for (int near = 0; near <= 60; near++) due("nobody, w " + near, w.fire(0, near), 0);
    }

    private static void howMuchWasThrown() {
        WaterMen w = cityOfLoads(9, 1, 2, 4);
        w.run(3);
        due("the nearest", w.fire(0, 7), 1);
        due("the others", w.fire(0, 9), 6);
        due("not twice", w.fire(0, 9), 0);
        due("all so far", w.sum(5), 7);
    }

    private static void noFireThere() {
        WaterMen w = cityOfLoads(9, 5);
        w.jar(0, 200, 3, 0, 0, 0);
        w.run(1);
        dueBadOutside("fire at a jar", 0, 1, j -> w.fire(j, 60));
        dueBadOutside("fire so near", 0, 60, near -> w.fire(0, near));
        dueMan(w, "he goes on", 0, 1, 9, 5);
        due("nothing was thrown", w.sum(5), 0);
    }

    // ---- THE TIME

    private static void ofTime() {
        sentence("(THE TIME is 0 at first)", () -> due("at first", new WaterMen().sum(7), 0));
        sentence("THE TIME is one more", MinutesEdgesTest::oneMore);
        sentence("14 n MINUTES (1 .. 500) go by: THE TIME", MinutesEdgesTest::minutesGoBy);
        sentence("14 BAD", MinutesEdgesTest::noSuchMinutes);
        sentence("14 FULL: it would be above 20000", MinutesEdgesTest::aboveTwentyThousand);
    }

    private static void oneMore() {
        WaterMen w = new WaterMen();
        for (int time = 1; time <= 20; time++) {
            due("run(1)", w.run(1), time);
            due("sum(7)", w.sum(7), time);
        }
    }

    private static void minutesGoBy() {
        for (int n : new int[] {1, 2, 299, 499, 500}) {
            WaterMen w = withFountains(1);
            due("run(" + n + ")", w.run(n), n);
            due("so much flowed", w.sum(0), n);
            due("run(" + n + ") again", w.run(n), 2 * n);
            due("so much flowed", w.sum(0), 2 * n);
        }
    }

    private static void noSuchMinutes() {
        WaterMen w = withFountains(1);
        w.run(3);
        dueBadOutside("run", 1, 500, w::run);
        due("no minute went by", w.sum(7), 3);
        due("nothing flowed", w.sum(0), 3);
    }

    private static WaterMen late(int time) {
        WaterMen w = withFountains(1);
        for (int i = 0; i < time / 500; i++) w.run(500);
        if (time % 500 > 0) w.run(time % 500);
        return w;
    }

    private static void aboveTwentyThousand() {
        due("20000 at once", late(19500).run(500), 20000);
        WaterMen w = late(19501);
        due("20001 at once", w.run(500), -3);
        due("nothing went by", w.sum(7), 19501);
        due("nothing flowed", w.sum(0), 19501);
        due("just 20000", w.run(499), 20000);
        due("one more", w.run(1), -3);
        due("500 more", w.run(500), -3);
        due("20000 still", w.sum(7), 20000);
        due("20000 flowed", w.sum(0), 20000);
    }

    // ---- looks

    private static void ofLooks() {
        sentence("15 0 what he does (0 in a ROW, 1 GOES UP, 2 GOES DOWN)", MinutesEdgesTest::whatHeDoes);
        sentence("15 (in a ROW: how many are ahead of him by RIGHT and coming)", MinutesEdgesTest::howManyAreAhead);
        sentence("15 BAD", MinutesEdgesTest::nothingTold);
        sentence("16 BAD", MinutesEdgesTest::noSuchWater);
        sentence("16 how much of a FOUNTAIN ran off so far (2), of a JAR was drunk (3)", MinutesEdgesTest::offAndDrunk);
        sentence("17 0 flowed (what ran off, too)", MinutesEdgesTest::flowedWithWhatRanOff);
        sentence("17 All so far: .. 7 THE TIME", MinutesEdgesTest::allSoFar);
        sentence("17 BAD", () -> dueBadOutside("sum", 0, 7, what -> (int) late(3).sum(what)));
    }

    private static void whatHeDoes() {
        WaterMen w = cityOfLoads(1, 5);
        int[] does = {1, 2, 0, 1, 2, 0};
        due("he has just come", w.told(0, 0), 0);
        for (int minute = 0; minute < does.length; minute++) {
            w.run(1);
            due("behind minute " + minute, w.told(0, 0), does[minute]);
        }
    }

    private static void howManyAreAhead() {
        WaterMen w = cityOfLoads(1, 5, 5, 5, 5, 5, 5, 5, 5, 5, 5);
        for (int m = 0; m < 10; m++) due("as they came, " + m, w.told(m, 1), m);
        w.right(9, 1);
        due("a greater right", w.told(9, 1), 0);
        for (int m = 0; m < 9; m++) due("the others, " + m, w.told(m, 1), m + 1);
        w.right(4, 1);
        due("like ones as they came", w.told(4, 1), 0);
        due("like ones as they came", w.told(9, 1), 1);
        due("below both", w.told(0, 1), 2);
        due("below both, ahead of him four more", w.told(5, 1), 6);
        WaterMen v = withFountains(3, 3);
        v.jar(0, 5, 1, 1, 0, 0);
        v.man(0, 5, 0, 0);
        v.man(0, 5, 1, 0);
        due("those of another row are not", v.told(1, 1), 0);
    }

    private static void nothingTold() {
        WaterMen w = cityOfLoads(1, 5, 5);
        dueBadOutside("told of a man", 0, 1, m -> w.told(m, 8));
        dueBadOutside("told what", 0, 8, what -> w.told(1, what));
        due("the last of all", w.told(1, 8), 0);
    }

    private static void noSuchWater() {
        WaterMen w = withFountains(20, 20, 20);
        for (int j = 0; j < 5; j++) w.jar(0, 5, 1, 1, 1, 0);
        w.run(2);
        for (int what : new int[] {0, 2}) dueBadOutside("fountains " + what, 0, 2, f -> w.water(f, what));
        for (int what : new int[] {1, 3}) dueBadOutside("jars " + what, 0, 4, j -> w.water(j, what));
        dueBadOutside("what", 0, 3, what -> w.water(0, what));
        due("the last fountain", w.water(2, 0), 40);
        due("the last jar", w.water(4, 1), 0);
    }

    private static void offAndDrunk() {
        WaterMen w = city(20, 0, 5, 1);
        w.drinks(0, 2);
        w.man(0, 5, 0, 0);
        w.run(3);
        w.open(0, false);
        due("nothing yet", w.water(0, 2), 0);
        due("two minutes", w.water(0, 3), 4);
        w.run(1);
        due("what was left", w.water(0, 3), 5);
        w.run(9);
        due("no more", w.water(0, 3), 5);
        w.moves(0, 0, 0);
        w.open(0, true);
        w.run(13);
        due("the fountain is full", w.water(0, 0) >= 280 ? 1 : 0, 1);
        due("all flowed is somewhere", w.water(0, 0) + w.water(0, 2) + w.sum(2), 16 * 20);
    }

    private static void flowedWithWhatRanOff() {
        WaterMen w = withFountains(20, 1);
        w.run(20);
        due("flowed", w.sum(0), 420);
        due("ran off", w.sum(1), 100);
        w.open(0, false);
        w.run(20);
        due("of the open one alone", w.sum(0), 440);
        due("none of the shut one", w.sum(1), 100);
    }

    private static void allSoFar() {
        WaterMen w = city(20, 2, 8, 1);
        w.drinks(0, 1);
        faresOf(w, "2:3");
        w.man(0, 5, 0, 0);
        w.man(0, 6, 0, 0);
        // Minute 0: MAN 0 is full; 1: MAN 1; 3: MAN 0 pours 5, 1 is drunk; 4: MAN 1 pours 4 of 6, MAN 0 is back.
        w.run(5);
        dueSums(w, "behind minute 4", 100, 0, 11, 9, 2, 0, 27, 5);
        w.run(1);
        due("man 0 throws", w.fire(0, 3), 5);
        dueSums(w, "behind minute 5", 120, 0, 16, 9, 3, 5, 27, 6);
    }
}
