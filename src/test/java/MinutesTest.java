/** Promises 14 to 18: minutes. */
public final class MinutesTest extends Due {
    public static void main(String[] args) {
        promise14();
        promise14Turns();
        promise14Order();
        promise14RowsByComing();
        promise14FullOnes();
        promise15();
        promise15Ways();
        promise16();
        promise17();
        promise18();
        promise18Down();
        end();
    }

    private static void promise14() {
        WaterMen w = new WaterMen();
        due("14 n 0", w.run(0), -1);
        due("14 n 501", w.run(501), -1);
        for (int wild : WILD) due("14 n " + wild, w.run(wild), -1);
        due("14 no minute went by", w.sum(7), 0);
        due("14 one", w.run(1), 1);
        for (int i = 0; i < 39; i++) w.run(500);
        due("14 to 19999", w.run(498), 19999);
        due("14 above 20000", w.run(2), -3);
        due("14 BAD ahead of FULL", w.run(0), -1);
        due("14 BAD ahead of FULL", w.run(Integer.MAX_VALUE), -1);
        due("14 refused changes nothing", w.sum(7), 19999);
        due("14 20000", w.run(1), 20000);
        due("14 no more", w.run(1), -3);
    }

    private static void promise14Turns() {
        WaterMen w = new WaterMen();
        w.fountain(20);
        w.jar(2, 100, 3, 0, 0, 0);
        w.man(0, 25, 0, 0);
        w.man(0, 5, 0, 0);
        w.run(1);
        dueMan(w, "14 ten a minute", 0, 0, 0, 10, 0);
        dueMan(w, "14 one man a minute", 1, 0, 1, 0, 0);
        w.run(1);
        dueMan(w, "14 the same one goes on", 0, 0, 0, 20, 0);
        w.run(1);
        dueMan(w, "14 full, he goes up, all minutes", 0, 1, 5, 25, 0);
        dueMan(w, "14 the next waits this minute", 1, 0, 0, 0, 0);
        due("14 what the fountain has", w.water(0, 0), 35);
        w.run(1);
        dueMan(w, "14 a minute less", 0, 1, 4, 25, 0);
        dueMan(w, "14 the next one goes up", 1, 1, 5, 5, 0);
        w.run(4);
        dueMan(w, "14 he has poured and goes down, all minutes", 0, 2, 3, 0, 25);
        due("14 the jar has it", w.water(0, 1), 25);
        w.run(2);
        dueMan(w, "14 a minute is left", 0, 2, 1, 0, 25);
        w.run(1);
        dueMan(w, "14 in the row, with nothing", 0, 0, 0, 0, 25);
        dueMan(w, "14 the other comes", 1, 2, 1, 0, 5);
        w.run(1);
        dueMan(w, "14 he fills from the next minute on", 0, 0, 0, 10, 25);
        dueMan(w, "14 behind all", 1, 0, 1, 0, 5);
    }

    /** A FOUNTAIN gains ahead of the filling; a JAR takes ahead of drinking; MEN pour by their numbers. */
    private static void promise14Order() {
        WaterMen w = new WaterMen();
        w.fountain(5);
        w.fountain(5);
        w.jar(0, 7, 1, 1, 0, 0);
        w.drinks(0, 4);
        w.man(0, 5, 1, 0);
        w.man(0, 5, 0, 0);
        w.run(1);
        dueMan(w, "14 flow first, then filling", 0, 1, 1, 5, 0);
        dueMan(w, "14 each fountain fills one", 1, 1, 1, 5, 0);
        w.run(1);
        dueMan(w, "14 man 0 pours first", 0, 2, 1, 0, 5);
        dueMan(w, "14 man 1 has what it does not take", 1, 2, 1, 3, 2);
        due("14 it drinks then", w.water(0, 1), 3);
        w.run(1);
        due("14 and again", w.water(0, 1), 0);
        due("14 as far as it had", w.water(0, 3), 7);
        w.run(1);
        dueMan(w, "14 he fills what he can take", 1, 1, 1, 5, 2);
        due("14 the fountain has the rest", w.water(0, 0), 20 - 5 - 2);
    }

    private static void promise14RowsByComing() {
        WaterMen w = new WaterMen();
        w.fountain(20);
        w.jar(0, 200, 1, 0, 0, 0);
        w.jar(0, 200, 2, 0, 0, 0);
        w.man(0, 1, 0, 1);
        w.man(0, 1, 0, 0);
        w.man(0, 1, 0, 0);
        w.run(2);
        // MAN 0 set out in minute 0 and is back in minute 4; MAN 1 in minute 1, back in minute 3.
        w.open(0, false);
        w.run(3);
        due("14 man 2 never left", w.told(2, 1), 0);
        due("14 man 1 came earlier", w.told(1, 1), 1);
        due("14 man 0 came later", w.told(0, 1), 2);
        WaterMen v = new WaterMen();
        v.fountain(20);
        v.jar(0, 200, 1, 0, 0, 0);
        v.jar(0, 200, 2, 0, 0, 0);
        v.man(0, 1, 0, 0);
        v.man(0, 1, 0, 1);
        v.right(1, 1);
        v.run(2);
        v.right(1, 0);
        v.run(3);
        // MAN 1 set out in minute 0, way 2 + 2: back in minute 4; MAN 0 in minute 1, back in minute 3, gone in 4.
        dueMan(v, "14 man 0 came and left", 0, 1, 1, 1, 1);
        dueMan(v, "14 man 1 is back", 1, 0, 0, 0, 1);
    }

    /** One comes back with all he had: in his turn he leaves at once, and only in his turn. */
    private static void promise14FullOnes() {
        WaterMen w = new WaterMen();
        w.fountain(20);
        w.jar(0, 1, 1, 0, 0, 0);
        w.man(0, 1, 0, 0);
        w.man(0, 1, 0, 0);
        w.man(0, 30, 0, 0);
        w.run(4);
        dueMan(w, "14 one comes full behind two others", 1, 0, 2, 1, 0);
        dueMan(w, "14 who fills", 2, 0, 0, 20, 0);
        w.drought(0);
        w.run(1);
        dueMan(w, "14 his turn is not yet", 1, 0, 1, 1, 0);
        dueMan(w, "14 the other is full", 2, 1, 1, 30, 0);
        w.run(1);
        dueMan(w, "14 nor yet", 1, 0, 0, 1, 0);
        dueMan(w, "14 one with nothing fills ahead of him", 0, 1, 1, 1, 1);
        long filled = w.sum(2);
        w.run(1);
        due("14 he leaves in his turn, and nothing is filled", w.sum(2), filled);
        due("14 he leaves in his turn", w.told(1, 0), 1);
        dryFountain();
    }

    private static void dryFountain() {
        WaterMen w = new WaterMen();
        w.fountain(7);
        w.jar(0, 5, 1, 0, 0, 0);
        w.man(0, 9, 0, 0);
        w.run(1);
        dueMan(w, "14 as much as there is", 0, 0, 0, 7, 0);
        w.drought(0);
        w.run(3);
        dueMan(w, "14 dry: he stays", 0, 0, 0, 7, 0);
        w.drought(100);
        w.run(1);
        dueMan(w, "14 as much as he can take", 0, 1, 1, 9, 0);
        due("14 what is left", w.water(0, 0), 5);
        w.run(1);
        dueMan(w, "14 what it does not take he keeps", 0, 2, 1, 4, 5);
        w.drinks(0, 0);
        w.run(1);
        dueMan(w, "14 down with it", 0, 0, 0, 4, 5);
        w.run(2);
        dueMan(w, "14 the jar is full: all is kept", 0, 2, 1, 9, 5);
        due("14 a pouring of 0 is not kept", w.count(6), 1);
    }

    private static void promise15() {
        WaterMen w = new WaterMen();
        due("15 nobody", w.told(0, 0), -1);
        w.fountain(10);
        w.fountain(10);
        w.jar(0, 50, 9, 9, 0, 0);
        w.jar(3, 50, 4, 6, 0, 0);
        w.man(1, 15, 1, 1);
        due("15 what -1", w.told(0, -1), -1);
        due("15 what 9", w.told(0, 9), -1);
        due("15 man 1", w.told(1, 0), -1);
        for (int wild : WILD) {
            due("15 man " + wild, w.told(wild, 0), -1);
            due("15 what " + wild, w.told(0, wild), -1);
        }
        dueMan(w, "15 in a row", 0, 0, 0, 0, 0, 1, 1, 8, 6, 1);
        w.run(2);
        dueMan(w, "15 up", 0, 1, 8, 15, 0, 1, 1, 8, 6, 1);
        faresOf(w, "3:7");
        w.run(8);
        dueMan(w, "15 down", 0, 2, 6, 0, 105, 1, 1, 8, 6, 1);
        w.run(6);
        dueMan(w, "15 in a row again", 0, 0, 0, 0, 105, 1, 1, 8, 6, 1);
        w.man(0, 9, 0, 0);
        w.man(0, 9, 1, 0);
        due("15 nobody of another row is ahead", w.told(1, 1), 0);
        due("15 one is ahead", w.told(2, 1), 1);
        w.right(2, 1);
        due("15 by right none", w.told(2, 1), 0);
        due("15 by right one", w.told(0, 1), 1);
        w.right(0, 1);
        due("15 of like rights who came first", w.told(2, 1), 1);
    }

    private static void promise15Ways() {
        WaterMen w = new WaterMen();
        w.fountain(1);
        int[] floors = {0, 1, 2, 3, 4, 7, 8, 9};
        for (int floor : floors) w.jar(floor, 5, 5, 0, 0, 0);
        for (int i = 0; i < 8; i++) {
            int climb = (floors[i] + 1) / 2;
            if (i == 0) {
                w.man(0, 5, 0, 0);
                w.man(1, 5, 0, 0);
                w.man(2, 5, 0, 0);
            }
            if (floors[i] <= 4) {
                w.moves(0, 0, i);
                due("15 a man's way up to " + floors[i], w.told(0, 6), 5 + floors[i]);
                due("15 a man's way down from " + floors[i], w.told(0, 7), 5);
            }
            w.moves(1, 0, i);
            due("15 a strong one's way up to " + floors[i], w.told(1, 6), 5 + climb);
            due("15 a strong one's way down from " + floors[i], w.told(1, 7), 5);
            w.moves(2, 0, i);
            due("15 a donkey's way up to " + floors[i], w.told(2, 6), 3);
            due("15 a donkey's way down from " + floors[i], w.told(2, 7), 3);
        }
    }

    private static void promise16() {
        WaterMen w = new WaterMen();
        for (int what = -1; what < 5; what++) due("16 nothing there " + what, w.water(0, what), -1);
        w.fountain(20);
        w.fountain(1);
        w.fountain(13);
        w.jar(0, 50, 1, 1, 1, 0);
        w.jar(0, 50, 1, 1, 1, 0);
        for (int wild : WILD) {
            for (int what = 0; what < 4; what++) due("16 which " + wild, w.water(wild, what), -1);
            due("16 what " + wild, w.water(0, wild), -1);
        }
        due("16 what 4", w.water(0, 4), -1);
        due("16 fountain 3", w.water(3, 0), -1);
        due("16 fountain 3", w.water(3, 2), -1);
        due("16 jar 2", w.water(2, 1), -1);
        due("16 jar 2", w.water(2, 3), -1);
        w.run(15);
        due("16 300", w.water(0, 0), 300);
        due("16 none ran off", w.water(0, 2), 0);
        w.run(1);
        due("16 300 at most", w.water(0, 0), 300);
        due("16 beyond runs off", w.water(0, 2), 20);
        due("16 another's own", w.water(1, 0), 16);
        due("16 another's own", w.water(1, 2), 0);
        w.run(8);
        due("16 a part runs off", w.water(2, 0), 300);
        due("16 a part runs off", w.water(2, 2), 12);
        w.man(0, 4, 0, 1);
        w.drinks(1, 1);
        w.run(1);
        due("16 it runs off ahead of the filling", w.water(0, 2), 20 * 10);
        due("16 what is left", w.water(0, 0), 296);
        w.run(1);
        due("16 the rest runs off", w.water(0, 2), 20 * 10 + 16);
        due("16 of the jar", w.water(1, 1), 3);
        due("16 drunk", w.water(1, 3), 1);
        due("16 the other jar's own", w.water(0, 1), 0);
        due("16 the other jar's own", w.water(0, 3), 0);
    }

    private static void promise17() {
        WaterMen w = new WaterMen();
        due("17 what -1", w.sum(-1), -1);
        due("17 what 8", w.sum(8), -1);
        for (int wild : WILD) due("17 what " + wild, w.sum(wild), -1);
        w.fountain(20);
        w.fountain(15);
        w.jar(1, 20, 1, 2, 0, 0);
        w.jar(2, 30, 2, 1, 0, 0);
        w.drinks(0, 2);
        faresOf(w, "1:10;2:3");
        w.man(0, 10, 0, 0);
        w.man(1, 12, 1, 1);
        w.run(1);
        dueSums(w, "17 after 1", 35, 0, 20, 0, 0, 0, 0, 1);
        w.run(2);
        dueSums(w, "17 after 3", 105, 0, 22, 10, 2, 0, 100, 3);
        w.run(1);
        dueSums(w, "17 after 4", 140, 0, 22, 22, 4, 0, 136, 4);
        w.run(1);
        due("17 man 0 goes up again", w.told(0, 0), 1);
        due("17 thrown", w.fire(0, 60), 10);
        dueSums(w, "17 after the fire", 175, 0, 32, 22, 6, 10, 136, 5);
        w.run(30);
        due("17 ran off of both", w.sum(1), w.water(0, 2) + w.water(1, 2));
        due("17 35 minutes", w.sum(0), 35 * 35);
        due("17 more than one fountain ran off", w.water(1, 2) > 0 && w.water(0, 2) > 0 ? 1 : 0, 1);
        due("17 earned by both", w.sum(6), w.told(0, 3) + w.told(1, 3));
        due("17 drunk", w.sum(4), w.water(0, 3) + w.water(1, 3));
    }

    private static void promise18() {
        WaterMen w = new WaterMen();
        due("18 no jar", w.fire(0, 0), -1);
        w.fountain(20);
        w.jar(0, 100, 3, 0, 0, 0);
        w.jar(4, 100, 2, 0, 0, 0);
        w.man(0, 10, 0, 0);
        w.man(0, 9, 0, 0);
        w.man(0, 8, 0, 1);
        w.man(0, 40, 0, 0);
        due("18 w -1", w.fire(0, -1), -1);
        due("18 w 61", w.fire(0, 61), -1);
        due("18 jar 2", w.fire(2, 5), -1);
        for (int wild : WILD) {
            due("18 jar " + wild, w.fire(wild, 5), -1);
            due("18 w " + wild, w.fire(0, wild), -1);
        }
        due("18 who is in a row throws nothing", w.fire(0, 60), 0);
        w.run(3);
        dueMan(w, "18 one is near", 0, 1, 1, 10, 0);
        dueMan(w, "18 one is farther", 1, 1, 2, 9, 0);
        dueMan(w, "18 one goes elsewhere", 2, 1, 6, 8, 0);
        due("18 w 0", w.fire(0, 0), 0);
        due("18 w 1", w.fire(0, 1), 10);
        dueMan(w, "18 he goes down, all minutes", 0, 2, 3, 0, 0);
        dueMan(w, "18 farther", 1, 1, 2, 9, 0);
        due("18 not twice", w.fire(0, 1), 0);
        due("18 w 2", w.fire(0, 2), 9);
        due("18 elsewhere", w.fire(1, 5), 0);
        due("18 elsewhere", w.fire(1, 6), 8);
        dueMan(w, "18 the minutes without the floor", 2, 2, 2, 0, 0);
        due("18 all thrown", w.sum(5), 27);
        due("18 nothing poured", w.sum(3), 0);
        due("18 nothing kept", w.count(6), 0);
        due("18 no jar has more", w.water(0, 1) + w.water(1, 1), 0);
        w.run(2);
        dueMan(w, "18 back in the row", 2, 0, 1, 0, 0);
    }

    private static void promise18Down() {
        WaterMen w = new WaterMen();
        w.fountain(20);
        w.jar(0, 2, 9, 0, 0, 0);
        w.man(2, 10, 0, 0);
        w.run(1 + 5);
        dueMan(w, "18 he goes down with what he keeps", 0, 2, 5, 8, 2);
        due("18 who goes down throws nothing", w.fire(0, 60), 0);
        dueMan(w, "18 and keeps it", 0, 2, 5, 8, 2);
        w.run(5 + 1 + 2);
        dueMan(w, "18 up again", 0, 1, 3, 10, 2);
        w.pace(0, 1);
        due("18 all he carries", w.fire(0, 60), 10);
        dueMan(w, "18 his way as it is now", 0, 2, 9, 0, 2);
        farFire();
    }

    private static void farFire() {
        WaterMen w = new WaterMen();
        w.fountain(20);
        w.jar(9, 2, 30, 0, 0, 0);
        w.man(1, 10, 0, 0);
        w.run(1);
        due("18 the longest way", w.told(0, 1), 35);
        due("18 w 34", w.fire(0, 34), 0);
        due("18 w 35", w.fire(0, 35), 10);
        due("18 the way down", w.told(0, 1), 30);
    }
}
