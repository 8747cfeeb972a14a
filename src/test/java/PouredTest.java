/** Promises 19 to 23: what was poured, what is given. */
public final class PouredTest extends Due {
    public static void main(String[] args) {
        promise19();
        promise19Latest();
        promise19Filling();
        promise20();
        promise20Moved();
        promise20Kept();
        promise21();
        promise21Likes();
        promise21Floors();
        promise22();
        promise23();
        end();
    }

    private static void duePouring(WaterMen w, String call, int i, int... facts) {
        for (int what = 0; what < 6; what++) {
            due(call + " poured(" + i + ", " + what + ")", w.poured(i, what), facts[what]);
        }
    }

    private static void promise19() {
        WaterMen w = new WaterMen();
        due("19 none", w.poured(0, 0), -4);
        due("19 i -1", w.poured(-1, 0), -1);
        due("19 what -1", w.poured(0, -1), -1);
        due("19 what 6", w.poured(0, 6), -1);
        due("19 BAD ahead of NONE", w.poured(99, 6), -1);
        w.fountain(20);
        w.fountain(20);
        w.jar(0, 100, 2, 2, 0, 0);
        w.jar(0, 100, 2, 3, 0, 0);
        w.man(0, 15, 0, 0);
        w.man(0, 8, 1, 1);
        w.run(3);
        due("19 none yet", w.poured(0, 0), -4);
        w.run(1);
        duePouring(w, "19 both in the minute of time 3, man 1 later", 0, 1, 1, 8, 3, 1, 0);
        duePouring(w, "19 the one before", 1, 0, 0, 15, 3, 0, 1);
        due("19 no third", w.poured(2, 0), -4);
        for (int wild : WILD) {
            due("19 what " + wild, w.poured(0, wild), -1);
            due("19 i " + wild, w.poured(wild, 0), wild < 0 ? -1 : -4);
        }
        due("19 i 100", w.poured(100, 0), -4);
    }

    private static void promise19Latest() {
        WaterMen w = new WaterMen();
        w.fountain(20);
        w.jar(0, 9, 1, 0, 0, 0);
        w.drinks(0, 9);
        w.man(0, 3, 0, 0);
        // A round takes three minutes: filled at 3k, poured at 3k + 1.
        w.run(299);
        due("19 a hundred", w.count(6), 100);
        duePouring(w, "19 the first one", 99, 0, 0, 3, 1, 0, 0);
        w.run(3);
        due("19 a hundred at most", w.count(6), 100);
        duePouring(w, "19 the latest", 0, 0, 0, 3, 301, 0, 300);
        duePouring(w, "19 the one before", 1, 0, 0, 3, 298, 0, 297);
        duePouring(w, "19 the oldest kept", 99, 0, 0, 3, 4, 0, 3);
        due("19 none behind", w.poured(100, 0), -4);
        w.run(450);
        duePouring(w, "19 the latest of many", 0, 0, 0, 3, 751, 0, 750);
        duePouring(w, "19 the oldest of many", 99, 0, 0, 3, 454, 0, 453);
    }

    private static void promise19Filling() {
        WaterMen w = new WaterMen();
        w.fountain(20);
        w.jar(0, 3, 1, 0, 0, 0);
        w.man(0, 4, 0, 0);
        w.run(3);
        // Back with 1; he fills 3 at time 3, comes to a full JAR, comes back full, and leaves with no filling at 6.
        w.run(4);
        dueMan(w, "19 full, up again", 0, 1, 1, 4, 3);
        w.drinks(0, 2);
        w.run(1);
        due("19 the jar was full still", w.count(6), 1);
        w.run(3);
        duePouring(w, "19 the time of his filling of more than 0", 0, 0, 0, 3, 10, 0, 3);
        due("19 only pourings of more than 0", w.count(6), 2);
        fillingOfOne();
    }

    private static void fillingOfOne() {
        WaterMen w = new WaterMen();
        w.fountain(20);
        w.fountain(1);
        w.jar(0, 100, 1, 1, 0, 0);
        w.man(0, 11, 0, 0);
        w.open(1, false);
        w.run(1);
        w.moves(0, 1, 0);
        w.drought(0);
        w.open(1, true);
        w.run(1);
        dueMan(w, "19 nothing to fill", 0, 0, 0, 10, 0);
        w.drought(100);
        w.run(2);
        duePouring(w, "19 a filling of 1 is the latest", 0, 0, 0, 11, 3, 1, 2);
    }

    private static void promise20() {
        WaterMen w = new WaterMen();
        due("20 no fountain", w.foul(0, 0), -1);
        w.fountain(20);
        w.fountain(20);
        for (int j = 0; j < 8; j++) w.jar(0, 100, 1, 1, 0, 0);
        w.man(0, 10, 0, 0);
        w.man(0, 20, 1, 7);
        w.man(0, 10, 0, 3);
        due("20 fountain 2", w.foul(2, 0), -1);
        due("20 t -1", w.foul(0, -1), -1);
        for (int wild : WILD) {
            due("20 fountain " + wild, w.foul(wild, 0), -1);
            due("20 t " + wild, w.foul(0, wild), wild < 0 ? -1 : 0);
        }
        due("20 nothing poured", w.foul(0, 0), 0);
        w.run(1);
        due("20 filled, not poured", w.foul(0, 0), 0);
        w.open(0, true);
        w.run(2);
        due("20 jars 0 and 3", w.foul(0, 0), 1 | 8);
        due("20 filled at 1 or later", w.foul(0, 1), 8);
        due("20 filled at 2 or later", w.foul(0, 2), 0);
        due("20 the last jar, last filled at 1", w.foul(1, 1), 128);
        due("20 not later", w.foul(1, 2), 0);
    }

    private static void promise20Moved() {
        WaterMen w = new WaterMen();
        w.fountain(20);
        w.fountain(5);
        w.jar(0, 100, 1, 1, 0, 0);
        w.jar(0, 100, 1, 1, 0, 0);
        w.man(0, 15, 0, 0);
        w.run(1);
        due("20 he moves with 10", w.moves(0, 1, 1), 1);
        w.run(2);
        duePouring(w, "20 the latest filling alone is kept", 0, 0, 1, 15, 2, 1, 1);
        due("20 not the earlier one", w.foul(0, 0), 0);
        due("20 the latest one", w.foul(1, 0), 2);
        movedFull();
    }

    private static void movedFull() {
        WaterMen w = new WaterMen();
        w.fountain(20);
        w.fountain(5);
        w.jar(0, 4, 1, 1, 0, 0);
        w.jar(0, 100, 2, 2, 0, 0);
        w.man(0, 5, 0, 0);
        w.man(0, 4, 0, 0);
        w.right(1, 1);
        w.run(4);
        dueMan(w, "20 back, full", 0, 0, 0, 5, 0);
        due("20 he moves, full", w.moves(0, 1, 1), 1);
        w.run(3);
        duePouring(w, "20 the fountain where he filled", 0, 0, 1, 5, 6, 0, 1);
        due("20 that fountain fouls", w.foul(0, 1), 2);
        due("20 not his own", w.foul(1, 0), 0);
    }

    private static void promise20Kept() {
        WaterMen w = new WaterMen();
        w.fountain(20);
        w.jar(0, 9, 1, 0, 0, 0);
        w.jar(0, 9, 1, 0, 0, 0);
        w.drinks(0, 9);
        w.man(0, 3, 0, 1);
        w.run(3);
        due("20 jar 1", w.foul(0, 0), 2);
        w.moves(0, 0, 0);
        w.run(297);
        due("20 still kept", w.foul(0, 0), 3);
        w.run(3);
        due("20 kept no more", w.foul(0, 0), 1);
    }

    private static WaterMen square(int[][] minutes) {
        WaterMen w = new WaterMen();
        int n = minutes.length;
        for (int f = 0; f < n; f++) w.fountain(1);
        for (int j = 0; j < minutes[0].length; j++) {
            int[] m = new int[4];
            for (int f = 0; f < n; f++) m[f] = minutes[f][j];
            w.jar(0, 5, m[0], m[1], m[2], m[3]);
        }
        for (int f = 0; f < n; f++) w.man(0, 5, f, 0);
        return w;
    }

    private static void dueGiven(WaterMen w, String call, int... jars) {
        for (int man = 0; man < jars.length; man++) due(call + " given(" + man + ")", w.given(man), jars[man]);
    }

    private static void promise21() {
        WaterMen w = square(new int[][] {{1, 2, 9}, {1, 8, 9}, {5, 5, 7}});
        due("21 the first's best is not the least", w.give(0, 0, 3), 2 * (2 + 1 + 7));
        dueGiven(w, "21", 1, 0, 2);
        due("21 one", w.give(2, 0, 1), 10);
        dueGiven(w, "21 one", -4, -4, 0);
        due("21 two from 1 on, jars from 1 on", w.give(1, 1, 2), 2 * (9 + 5));
        dueGiven(w, "21 from 1 on", -4, 2, 1);
        due("21 n 0", w.give(0, 0, 0), -1);
        due("21 n 7", w.give(0, 0, 7), -1);
        due("21 man -1", w.give(-1, 0, 1), -1);
        due("21 jar -1", w.give(0, -1, 1), -1);
        due("21 too few men", w.give(1, 0, 3), -1);
        due("21 too few jars", w.give(0, 2, 2), -1);
        due("21 man 3", w.give(3, 0, 1), -1);
        due("21 jar 3", w.give(0, 3, 1), -1);
        for (int wild : WILD) {
            due("21 man " + wild, w.give(wild, 0, 1), -1);
            due("21 man " + wild, w.give(wild, 0, 6), -1);
            due("21 jar " + wild, w.give(0, wild, 1), -1);
            due("21 n " + wild, w.give(0, 0, wild), -1);
        }
        dueGiven(w, "21 refused changes nothing", -4, 2, 1);
        due("21 he belongs where he did", w.told(0, 5), 0);
        due("21 his fountain", w.told(2, 4), 2);
    }

    private static void promise21Likes() {
        WaterMen w = square(new int[][] {{4, 4, 4, 4}, {4, 4, 4, 4}, {4, 4, 4, 4}, {4, 4, 4, 4}});
        due("21 all alike", w.give(0, 0, 4), 32);
        dueGiven(w, "21 all alike", 0, 1, 2, 3);
        w = square(new int[][] {{3, 2, 5}, {2, 1, 4}, {1, 2, 2}});
        // 0 1 2, 0 2 1, 1 0 2, 1 2 0, 2 0 1, 2 1 0 toil 6, 9, 6, 7, 9, 7.
        due("21 two are least", w.give(0, 0, 3), 12);
        dueGiven(w, "21 the first by the jar of the first", 0, 1, 2);
        w = square(new int[][] {{9, 1, 9}, {3, 9, 3}, {4, 9, 4}});
        due("21 then the next", w.give(0, 0, 3), 16);
        dueGiven(w, "21 then the next", 1, 0, 2);
    }

    private static void promise21Floors() {
        WaterMen w = new WaterMen();
        w.fountain(1);
        w.jar(5, 5, 1, 0, 0, 0);
        w.jar(4, 5, 10, 0, 0, 0);
        w.jar(9, 5, 7, 0, 0, 0);
        w.man(0, 5, 0, 1);
        w.man(1, 5, 0, 0);
        w.man(2, 5, 0, 0);
        due("21 a man can't go there", w.give(0, 0, 1), -4);
        due("21 nothing was given", w.given(0), -4);
        due("21 a man's way", w.give(0, 1, 1), 24);
        due("21 a strong one's way", w.give(1, 2, 1), 19);
        due("21 a donkey's way", w.give(2, 2, 1), 8);
        due("21 all", w.give(0, 0, 3), 24 + 5 + 8);
        dueGiven(w, "21 all", 1, 0, 2);
        w.pace(2, 5);
        due("21 by the pace", w.give(2, 2, 1), 4);
        w.man(0, 5, 0, 1);
        due("21 two for one floor", w.give(2, 0, 2), 2 + 24);
        w.man(0, 5, 0, 1);
        due("21 no such", w.give(2, 0, 3), -4);
        dueGiven(w, "21 no such changes nothing", -4, -4, 0, 1, -4);
        WaterMen six = new WaterMen();
        six.fountain(1);
        for (int j = 0; j < 8; j++) six.jar(4, 5, 30, 0, 0, 0);
        for (int m = 0; m < 10; m++) six.man(0, 5, 0, 0);
        due("21 six, the last ones", six.give(4, 2, 6), 6 * 64);
        dueGiven(six, "21 six", -4, -4, -4, -4, 2, 3, 4, 5, 6, 7);
        due("21 seven, though they are there", six.give(0, 0, 7), -1);
        due("21 beyond", six.give(5, 2, 6), -1);
        due("21 beyond", six.give(4, 3, 6), -1);
    }

    private static void promise22() {
        WaterMen w = new WaterMen();
        due("22 nobody", w.given(0), -1);
        w.fountain(1);
        w.jar(0, 5, 1, 0, 0, 0);
        w.jar(9, 5, 1, 0, 0, 0);
        w.man(0, 5, 0, 0);
        w.man(1, 5, 0, 0);
        due("22 no give yet", w.given(0), -4);
        w.give(0, 0, 2);
        dueGiven(w, "22 two", 0, 1, -1);
        w.man(0, 5, 0, 0);
        due("22 who came later", w.given(2), -4);
        due("22 no such", w.give(2, 1, 1), -4);
        dueGiven(w, "22 no such changes nothing", 0, 1, -4, -1);
        due("22 one", w.give(2, 0, 1), 2);
        dueGiven(w, "22 the latest alone", -4, -4, 0, -1);
        due("22 man -1", w.given(-1), -1);
        for (int wild : WILD) due("22 man " + wild, w.given(wild), -1);
        w.moves(2, 0, 0);
        w.run(9);
        due("22 it stays", w.given(2), 0);
    }

    private static void promise23() {
        WaterMen w = new WaterMen();
        dueCounts(w, "23 nothing", 0, 0, 0, 0, 0, 0, 0, -1);
        due("23 what -1", w.count(-1), -1);
        for (int wild : WILD) due("23 what " + wild, w.count(wild), -1);
        w.fountain(20);
        w.fountain(20);
        w.jar(0, 50, 1, 1, 0, 0);
        for (int i = 0; i < 3; i++) w.man(0, 5, 0, 0);
        w.man(0, 40, 1, 0);
        dueCounts(w, "23 at first", 2, 1, 4, 4, 0, 0, 0);
        w.run(1);
        dueCounts(w, "23 one goes up", 2, 1, 4, 3, 1, 0, 0);
        w.run(1);
        dueCounts(w, "23 one up, one down", 2, 1, 4, 2, 1, 1, 1);
        w.run(1);
        dueCounts(w, "23 one is back", 2, 1, 4, 2, 1, 1, 2);
    }
}
