/** The edges of what was poured and given: the document's part 3 and promises 19 to 23, a test for each sentence that names one. */
public final class PouredEdgesTest extends Edges {
    public static void main(String[] args) {
        ofPourings();
        ofFouledFountains();
        ofGiving();
        ofGiven();
        ofCounts();
        end();
    }

    // ---- POURINGS

    private static void ofPourings() {
        sentence("POURINGS of more than 0 are kept", PouredEdgesTest::moreThanNothing);
        sentence("(the latest 100)", PouredEdgesTest::latestHundred);
        sentence("MAN, JAR, measures, TIME", PouredEdgesTest::whatIsKept);
        sentence("the FOUNTAIN and TIME of his latest filling (of more than 0)", PouredEdgesTest::latestFilling);
        sentence("19 the latest first (0)", PouredEdgesTest::latestFirst);
        sentence("19 BAD (what; i below 0)", PouredEdgesTest::noSuchFact);
        sentence("19 NONE: no such", PouredEdgesTest::noSuchPouring);
    }

    private static void moreThanNothing() {
        WaterMen w = city(20, 0, 6, 1);
        w.man(0, 5, 0, 0);
        int[] kept = {0, 1, 1, 1, 2, 2, 2, 2, 2, 2};
        for (int minute = 0; minute < kept.length; minute++) {
            w.run(1);
            due("behind minute " + minute, w.count(6), kept[minute]);
        }
        duePouring(w, "one measure", 0, 0, 0, 1);
        duePouring(w, "five measures", 1, 0, 0, 5);
    }

    /** A MAN with 3 measures to a JAR that drinks all: he fills at 3k, pours at 3k + 1, is back at 3k + 2. */
    private static WaterMen poursInEachThirdMinute() {
        WaterMen w = city(20, 0, 9, 1);
        w.drinks(0, 9);
        w.man(0, 3, 0, 0);
        return w;
    }

    private static void runTo(WaterMen w, int from, int to) {
        for (int time = from; time < to; time += 500) w.run(Math.min(500, to - time));
    }

    private static void latestHundred() {
        for (int pourings : new int[] {1, 99, 100, 101, 102, 199, 200, 201, 300, 350}) {
            WaterMen w = poursInEachThirdMinute();
            runTo(w, 0, 3 * pourings);
            int kept = Math.min(100, pourings);
            due("kept of " + pourings, w.count(6), kept);
            for (int i = 0; i < kept; i++) {
                int time = 3 * (pourings - 1 - i) + 1;
                due("time of " + i + " of " + pourings, w.poured(i, 3), time);
                due("filling of " + i + " of " + pourings, w.poured(i, 5), time - 1);
            }
            due("none behind them", w.poured(kept, 3), -4);
        }
    }

    private static void whatIsKept() {
        WaterMen w = withFountains(20, 20);
        for (int j = 0; j < 8; j++) w.jar(0, 200, 2, 3, 0, 0);
        for (int m = 0; m < 9; m++) w.man(0, 1, 0, 0);
        w.man(0, 40, 1, 7);
        w.right(9, 3);
        w.run(3);
        duePouring(w, "man 0", 0, 0, 0, 1, 2, 0, 0);
        w.run(4);
        duePouring(w, "man 9: forty, in minute 6", 0, 9, 7, 40, 6, 1, 3);
    }

    private static void latestFilling() {
        WaterMen w = withFountains(20, 20, 20);
        w.jar(0, 200, 1, 1, 1, 0);
        w.man(0, 21, 0, 0);
        w.run(1);
        w.moves(0, 1, 0);
        w.run(1);
        w.moves(0, 2, 0);
        w.run(2);
        duePouring(w, "the third of three", 0, 0, 0, 21, 3, 2, 2);
        // A filling of 0: he comes to a JAR that is full, back with all, and leaves once more with no filling.
        WaterMen v = withFountains(20, 20);
        v.jar(0, 3, 1, 1, 0, 0);
        v.man(0, 3, 0, 0);
        v.man(0, 3, 0, 0);
        v.run(4);
        dueMan(v, "back with all", 1, 0, 0, 3);
        v.drinks(0, 9);
        v.moves(1, 1, 0);
        v.run(1);
        dueMan(v, "up again from 1", 1, 1, 1, 3, 0, 1);
        v.run(1);
        duePouring(v, "filled at 0 in minute 1", 0, 1, 0, 3, 5, 0, 1);
    }

    private static void latestFirst() {
        WaterMen w = withFountains(20, 20);
        w.jar(0, 200, 1, 1, 0, 0);
        w.man(0, 2, 0, 0);
        w.man(0, 3, 1, 0);
        w.man(0, 4, 0, 0);
        w.run(3);
        duePouring(w, "man 2 in minute 2", 0, 2, 0, 4, 2, 0, 1);
        duePouring(w, "man 1 in minute 1", 1, 1, 0, 3, 1, 1, 0);
        duePouring(w, "man 0 in minute 1, ahead of him", 2, 0, 0, 2, 1, 0, 0);
    }

    private static void noSuchFact() {
        WaterMen w = poursInEachThirdMinute();
        dueBadOutside("what, nothing is kept", 0, 5, what -> w.poured(0, what));
        w.run(3);
        dueBadOutside("what", 0, 5, what -> w.poured(0, what));
        for (int i : new int[] {-1, -2, -100, Integer.MIN_VALUE}) due("i " + i, w.poured(i, 0), -1);
        due("the last of all", w.poured(0, 5), 0);
    }

    private static void noSuchPouring() {
        WaterMen w = poursInEachThirdMinute();
        due("nothing is kept", w.poured(0, 0), -4);
        w.run(6);
        for (int what = 0; what < 6; what++) {
            due("the second is there", w.poured(1, what) >= 0 ? 1 : 0, 1);
            for (int i : new int[] {2, 99, 100, 101, Integer.MAX_VALUE}) due("i " + i, w.poured(i, what), -4);
        }
        runTo(w, 6, 600);
        due("a hundredth is there", w.poured(99, 3), 301);
        due("none behind it", w.poured(100, 3), -4);
    }

    // ---- FOULED FOUNTAINS

    private static void ofFouledFountains() {
        sentence("JARS are FOUL of which a POURING is kept with that FOUNTAIN", PouredEdgesTest::keptWithThatFountain);
        sentence("and t or later for its filling", PouredEdgesTest::thenOrLater);
        sentence("20 JARS that are FOUL, as bits", PouredEdgesTest::jarsAsBits);
        sentence("20 (0 ..)", PouredEdgesTest::anyTime);
        sentence("20 BAD", PouredEdgesTest::noSuchFouling);
    }

    private static void keptWithThatFountain() {
        WaterMen w = withFountains(20, 20);
        w.jar(0, 9, 1, 1, 0, 0);
        w.jar(0, 9, 1, 1, 0, 0);
        w.drinks(1, 9);
        w.man(0, 3, 0, 0);
        w.run(1);
        due("filled, not poured", w.foul(0, 0), 0);
        w.run(2);
        due("poured", w.foul(0, 0), 1);
        due("not by the other", w.foul(1, 0), 0);
        w.moves(0, 0, 1);
        runTo(w, 3, 300);
        due("a hundred are kept, the first of them", w.foul(0, 0), 3);
        w.run(3);
        due("it is kept no more", w.foul(0, 0), 2);
    }

    private static void thenOrLater() {
        WaterMen w = cityOfLoads(5, 1, 1, 25);
        w.jar(0, 200, 5, 0, 0, 0);
        w.moves(2, 0, 1);
        w.run(10);
        // MAN 0 fills at 0, MAN 1 at 1, both for JAR 0; MAN 2 at 2, 3 and, at last, 4.
        int[] bits = {3, 3, 2, 2, 2, 0, 0};
        for (int t = 0; t < bits.length; t++) due("from " + t, w.foul(0, t), bits[t]);
    }

    private static void jarsAsBits() {
        for (int jar = 0; jar < 8; jar++) {
            WaterMen w = withFountains(20);
            for (int j = 0; j < 8; j++) w.jar(0, 9, 1, 0, 0, 0);
            w.man(0, 1, 0, jar);
            w.run(2);
            due("jar " + jar, w.foul(0, 0), 1 << jar);
        }
        WaterMen w = withFountains(20, 20);
        for (int j = 0; j < 8; j++) {
            w.jar(0, 9, 1, 1, 0, 0);
            w.man(0, 1, 0, j);
        }
        w.run(9);
        due("all", w.foul(0, 0), 255);
        due("none", w.foul(1, 0), 0);
    }

    private static void anyTime() {
        WaterMen w = cityOfLoads(1, 1);
        w.run(3);
        due("from 0", w.foul(0, 0), 1);
        due("from a time to come", w.foul(0, 20001), 0);
        due("from the greatest number", w.foul(0, Integer.MAX_VALUE), 0);
    }

    private static void noSuchFouling() {
        WaterMen w = withFountains(20, 20, 20);
        w.jar(0, 9, 1, 1, 1, 0);
        w.man(0, 1, 2, 0);
        w.run(3);
        dueBadOutside("foul", 0, 2, f -> w.foul(f, 0));
        for (int t : new int[] {-1, -2, Integer.MIN_VALUE}) due("from " + t, w.foul(2, t), -1);
        due("the last fountain", w.foul(2, 0), 1);
    }

    // ---- giving

    private static void ofGiving() {
        sentence("n MEN, from a told one on by numbers; n JARS, from a told one on", PouredEdgesTest::fromAToldOneOn);
        sentence("(n) 1 to 6", PouredEdgesTest::oneToSix);
        sentence("each MAN one JAR, none twice", PouredEdgesTest::noneTwice);
        sentence("so that the TOIL, all their WAYS up and down from their FOUNTAINS together, is least", PouredEdgesTest::leastToil);
        sentence("(a JAR on a FLOOR that a MAN can't go to is not for him)", PouredEdgesTest::notForHim);
        sentence("of like ones the first by the JAR of the first MAN, then the next", PouredEdgesTest::ofLikeOnes);
        sentence("21 BAD: also MEN, JARS that are not there", PouredEdgesTest::notThere);
        sentence("21 NONE: no such", PouredEdgesTest::noSuchGiving);
    }

    /** MAN i of FOUNTAIN i; all JARS on FLOOR 0, minutes[i][j] from FOUNTAIN i. */
    private static WaterMen byMinutes(int[][] minutes) {
        WaterMen w = new WaterMen();
        for (int f = 0; f < minutes.length; f++) w.fountain(1);
        for (int j = 0; j < minutes[0].length; j++) {
            int[] told = new int[4];
            for (int f = 0; f < minutes.length; f++) told[f] = minutes[f][j];
            w.jar(0, 5, told[0], told[1], told[2], told[3]);
        }
        for (int f = 0; f < minutes.length; f++) w.man(0, 5, f, 0);
        return w;
    }

    /** Ten MEN, eight JARS, all as far as can be. */
    private static WaterMen greatCity() {
        WaterMen w = withFountains(1);
        for (int j = 0; j < 8; j++) w.jar(4, 5, 30, 0, 0, 0);
        for (int m = 0; m < 10; m++) w.man(0, 5, 0, 0);
        return w;
    }

    private static void fromAToldOneOn() {
        WaterMen w = greatCity();
        due("the first ones", w.give(0, 0, 2), 128);
        dueGiven(w, "the first ones", 0, 1, -4, -4, -4, -4, -4, -4, -4, -4);
        due("the last ones", w.give(8, 6, 2), 128);
        dueGiven(w, "the last ones", -4, -4, -4, -4, -4, -4, -4, -4, 6, 7);
        due("some between", w.give(3, 5, 3), 192);
        dueGiven(w, "some between", -4, -4, -4, 5, 6, 7, -4, -4, -4, -4);
    }

    private static void oneToSix() {
        WaterMen w = greatCity();
        for (int n = 1; n <= 6; n++) {
            due("n " + n, w.give(10 - n, 8 - n, n), 64 * n);
            for (int m = 0; m < 10; m++) due(n + " given to " + m, w.given(m), m < 10 - n ? -4 : m - 2);
        }
        dueBadOutside("n", 1, 6, n -> w.give(0, 0, n));
        due("as it was", w.given(4), 2);
    }

    private static void noneTwice() {
        // JAR 1 is the nearest for each of the four.
        WaterMen w = byMinutes(new int[][] {{9, 1, 8, 7}, {9, 1, 8, 6}, {9, 1, 8, 5}, {9, 1, 8, 3}});
        due("toil", w.give(0, 0, 4), 2 * (9 + 1 + 8 + 3));
        int jars = 0;
        for (int m = 0; m < 4; m++) jars |= 1 << w.given(m);
        due("all four", jars, 15);
        due("of those the first", w.given(0), 0);
    }

    private static void leastToil() {
        WaterMen w = byMinutes(new int[][] {{1, 2, 30}, {1, 29, 30}, {2, 28, 27}});
        due("not the nearest for the first", w.give(0, 0, 3), 2 * (2 + 1 + 27));
        dueGiven(w, "not the nearest for the first", 1, 0, 2);
        w = city(1, 4, 5, 3);
        w.jar(3, 5, 8, 0, 0, 0);
        w.man(0, 5, 0, 0);
        w.man(1, 5, 0, 0);
        w.man(2, 5, 0, 0);
        due("a man up and down", w.give(0, 0, 1), 7 + 3);
        due("a strong one up and down", w.give(1, 1, 1), 10 + 8);
        due("a donkey up and down", w.give(2, 1, 1), 4 + 4);
        w.pace(2, 1);
        due("a donkey as its pace is", w.give(2, 1, 1), 8 + 8);
        due("with a strong one", w.give(0, 0, 2), Math.min(10 + 18, 19 + 8));
        fromTheirFountains();
    }

    private static void fromTheirFountains() {
        WaterMen w = byMinutes(new int[][] {{5, 6}, {9, 20}});
        due("from 0", w.give(0, 0, 1), 10);
        w.moves(0, 1, 0);
        due("from 1", w.give(0, 0, 1), 18);
        due("both from 1", w.give(0, 0, 2), 58);
    }

    private static void notForHim() {
        WaterMen w = city(1, 5, 5, 1);
        w.jar(4, 5, 30, 0, 0, 0);
        w.man(0, 5, 0, 1);
        w.man(1, 5, 0, 1);
        w.man(2, 5, 0, 1);
        due("the far one is for the man", w.give(0, 0, 2), 34 + 30 + 4 + 1);
        dueGiven(w, "the far one is for the man", 1, 0);
        due("floor 5 alone", w.give(0, 0, 1), -4);
        due("floor 4 alone", w.give(0, 1, 1), 64);
        due("a strong one", w.give(1, 0, 1), 5);
        due("a donkey", w.give(2, 0, 1), 2);
    }

    private static void ofLikeOnes() {
        int[][] alike = {{4, 4, 4, 4}, {4, 4, 4, 4}, {4, 4, 4, 4}, {4, 4, 4, 4}};
        WaterMen w = byMinutes(alike);
        due("all alike", w.give(0, 0, 4), 32);
        dueGiven(w, "all alike", 0, 1, 2, 3);
        // 1 0 2 and 2 0 1 are alike, and 1 2 0 and 2 1 0.
        w = byMinutes(new int[][] {{30, 4, 4}, {4, 4, 4}, {4, 4, 4}});
        due("the first can't have 0", w.give(0, 0, 3), 24);
        dueGiven(w, "then the next", 1, 0, 2);
        w = byMinutes(new int[][] {{4, 4, 4}, {4, 30, 4}, {4, 4, 4}});
        due("the second can't have 1", w.give(0, 0, 3), 24);
        dueGiven(w, "the first goes ahead of him", 0, 2, 1);
        w = byMinutes(new int[][] {{4, 4, 9}, {5, 5, 9}, {9, 9, 9}});
        due("two ways", w.give(0, 0, 3), 36);
        dueGiven(w, "two ways", 0, 1, 2);
    }

    private static void notThere() {
        WaterMen w = byMinutes(new int[][] {{4, 4, 4, 4}, {4, 4, 4, 4}, {4, 4, 4, 4}});
        w.give(0, 1, 3);
        for (int n = 1; n <= 6; n++) {
            int some = n;
            dueBadOutside(n + " men", 0, 3 - n, m -> w.give(m, 0, some));
            dueBadOutside(n + " jars", 0, 4 - n, j -> w.give(0, j, some));
        }
        dueGiven(w, "as it was", 1, 2, 3);
        due("the last man", w.give(2, 0, 1), 8);
        due("the last jar", w.give(0, 3, 1), 8);
        due("all men, the last jars", w.give(0, 1, 3), 24);
    }

    private static void noSuchGiving() {
        WaterMen w = city(1, 5, 5, 1);
        w.jar(9, 5, 1, 0, 0, 0);
        w.jar(0, 5, 1, 0, 0, 0);
        w.man(0, 5, 0, 2);
        w.man(0, 5, 0, 2);
        w.man(1, 5, 0, 2);
        due("one man to a high floor", w.give(0, 0, 1), -4);
        due("two men, one low floor", w.give(0, 1, 2), -4);
        due("two of three high", w.give(0, 0, 3), -4);
        due("a man and a strong one, one low floor", w.give(1, 1, 2), 2 + 7);
    }

    // ---- given

    private static void ofGiven() {
        sentence("22 By the latest give() that told a TOIL: the JAR of a MAN", PouredEdgesTest::byTheLatest);
        sentence("22 NONE: he was not among them", PouredEdgesTest::notAmongThem);
        sentence("22 BAD", PouredEdgesTest::givenToNobody);
    }

    private static void byTheLatest() {
        WaterMen w = byMinutes(new int[][] {{1, 9}, {9, 1}});
        w.jar(5, 5, 1, 1, 0, 0);
        w.give(0, 0, 2);
        dueGiven(w, "two", 0, 1);
        due("he belongs to the jar that he did", w.told(1, 5), 0);
        due("no such", w.give(1, 2, 1), -4);
        dueGiven(w, "no such: as it was", 0, 1);
        due("not there", w.give(1, 3, 1), -1);
        dueGiven(w, "not there: as it was", 0, 1);
        w.moves(0, 0, 1);
        w.run(50);
        dueGiven(w, "later: as it was", 0, 1);
        w.give(1, 0, 1);
        dueGiven(w, "the latest", -4, 0);
    }

    private static void notAmongThem() {
        WaterMen w = byMinutes(new int[][] {{1, 9, 3}, {9, 1, 3}, {3, 3, 3}});
        dueGiven(w, "nothing was given", -4, -4, -4);
        w.give(1, 0, 1);
        dueGiven(w, "one", -4, 0, -4);
        w.give(0, 0, 2);
        dueGiven(w, "two", 0, 1, -4);
        w.man(0, 5, 0, 0);
        due("who came later", w.given(3), -4);
    }

    private static void givenToNobody() {
        WaterMen w = byMinutes(new int[][] {{1, 9, 3}, {9, 1, 3}, {3, 3, 3}});
        w.give(0, 0, 3);
        dueBadOutside("given", 0, 2, w::given);
        due("the last man", w.given(2), 2);
    }

    // ---- counts

    private static void ofCounts() {
        sentence("23 How many: 0 FOUNTAINS, 1 JARS, 2 MEN", PouredEdgesTest::howManyAreThere);
        sentence("23 3 in ROWS, 4 who GO UP, 5 DOWN", PouredEdgesTest::whatTheyDo);
        sentence("23 6 POURINGS kept", PouredEdgesTest::howManyAreKept);
        sentence("23 BAD", () -> dueBadOutside("count", 0, 6, what -> greatCity().count(what)));
    }

    private static void howManyAreThere() {
        WaterMen w = new WaterMen();
        dueCounts(w, "none", 0, 0, 0);
        for (int f = 1; f <= 4; f++) {
            w.fountain(1);
            dueCounts(w, "fountains", f, 0, 0);
        }
        for (int j = 1; j <= 8; j++) {
            w.jar(0, 5, 1, 1, 1, 1);
            dueCounts(w, "jars", 4, j, 0);
        }
        for (int m = 1; m <= 10; m++) {
            w.man(0, 5, m % 4, m % 8);
            dueCounts(w, "men", 4, 8, m, m);
        }
    }

    private static void whatTheyDo() {
        WaterMen w = cityOfLoads(2, 5, 5, 5);
        int[][] counts = {{2, 1, 0}, {1, 2, 0}, {0, 2, 1}, {0, 1, 2}, {1, 0, 2}};
        for (int minute = 0; minute < counts.length; minute++) {
            w.run(1);
            for (int i = 0; i < 3; i++) due("count(" + (3 + i) + ") behind minute " + minute, w.count(3 + i), counts[minute][i]);
        }
    }

    private static void howManyAreKept() {
        WaterMen w = poursInEachThirdMinute();
        for (int pourings = 1; pourings <= 120; pourings++) {
            w.run(3);
            due("of " + pourings, w.count(6), Math.min(100, pourings));
        }
    }
}
