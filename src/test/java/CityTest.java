/** Promises 1 to 13: the city. */
public final class CityTest extends Due {
    public static void main(String[] args) {
        promise1();
        promise2();
        promise3();
        promise4();
        promise5();
        promise6();
        promise7();
        promise8();
        promise8OnTheWay();
        promise9();
        promise10();
        promise11();
        promise12Clauses();
        promise12Faults();
        promise12Blanks();
        promise13();
        end();
    }

    private static void promise1() {
        WaterMen w = new WaterMen();
        dueCounts(w, "1 new", 0, 0, 0, 0, 0, 0, 0, -1);
        dueSums(w, "1 new", 0, 0, 0, 0, 0, 0, 0, 0, -1);
        due("1 no drought", w.drought(100), 100);
        due("1 the tape is empty", w.type(65, 1), 1);
        due("1 nothing poured", w.poured(0, 0), -4);
        duePrices(w, "1 first fares", 1, 1, 1, 1, 1, 1, 1, 1, 1, 1);
        WaterMen other = new WaterMen();
        due("1 another object's own", w.fountain(3), 0);
        due("1 another object's own", other.count(0), 0);
        due("1 another object's tape", other.type(65, 1), 1);
    }

    private static void promise2() {
        WaterMen w = new WaterMen();
        due("2 flow 0", w.fountain(0), -1);
        due("2 flow 21", w.fountain(21), -1);
        for (int wild : WILD) due("2 flow " + wild, w.fountain(wild), -1);
        due("2 none came", w.count(0), 0);
        due("2 flow 1", w.fountain(1), 0);
        due("2 flow 20", w.fountain(20), 1);
        due("2 third", w.fountain(7), 2);
        due("2 fourth", w.fountain(7), 3);
        due("2 fifth", w.fountain(7), -3);
        due("2 BAD ahead of FULL", w.fountain(0), -1);
        due("2 four", w.count(0), 4);
        w.run(1);
        due("2 flow 1 flowed", w.water(0, 0), 1);
        due("2 flow 20 flowed", w.water(1, 0), 20);
        w.jar(0, 1, 1, 1, 1, 1);
        due("2 NOT ahead of FULL", w.fountain(7), -2);
        due("2 BAD ahead of NOT", w.fountain(21), -1);
    }

    private static void promise3() {
        WaterMen w = new WaterMen();
        due("3 no fountain", w.jar(0, 1, 0, 0, 0, 0), -2);
        due("3 BAD ahead of NOT", w.jar(10, 1, 1, 1, 1, 1), -1);
        due("3 BAD ahead of NOT", w.jar(0, 0, 1, 1, 1, 1), -1);
        w.fountain(1);
        w.fountain(1);
        w.fountain(1);
        due("3 floor -1", w.jar(-1, 1, 1, 1, 1, 1), -1);
        due("3 floor 10", w.jar(10, 1, 1, 1, 1, 1), -1);
        due("3 holds 0", w.jar(0, 0, 1, 1, 1, 1), -1);
        due("3 holds 201", w.jar(0, 201, 1, 1, 1, 1), -1);
        due("3 a 0", w.jar(0, 1, 0, 1, 1, 1), -1);
        due("3 b 31", w.jar(0, 1, 1, 31, 1, 1), -1);
        due("3 c 0", w.jar(0, 1, 1, 1, 0, 1), -1);
        for (int wild : WILD) {
            due("3 floor " + wild, w.jar(wild, 1, 1, 1, 1, 1), -1);
            due("3 holds " + wild, w.jar(0, wild, 1, 1, 1, 1), -1);
            due("3 a " + wild, w.jar(0, 1, wild, 1, 1, 1), -1);
            due("3 c " + wild, w.jar(0, 1, 1, 1, wild, 1), -1);
        }
        due("3 none came", w.count(1), 0);
        due("3 d is not looked at", w.jar(9, 200, 30, 1, 15, -7), 0);
        due("3 least", w.jar(0, 1, 1, 1, 1, 99), 1);
        for (int i = 2; i < 8; i++) due("3 jar " + i, w.jar(i, 10, 1, 2, 3, 0), i);
        due("3 ninth", w.jar(0, 1, 1, 1, 1, 1), -3);
        due("3 BAD ahead of FULL", w.jar(0, 1, 1, 1, 31, 1), -1);
        due("3 eight", w.count(1), 8);
        for (int f = 0; f < 3; f++) w.man(2, 5, f, 0);
        for (int f = 0; f < 3; f++) w.pace(f, 1);
        due("3 minutes from 0", w.told(0, 7), 30);
        due("3 minutes from 1", w.told(1, 7), 1);
        due("3 minutes from 2", w.told(2, 7), 15);
        jarWithAllFour();
        jarHoldsNoMore();
    }

    private static void jarWithAllFour() {
        WaterMen w = new WaterMen();
        for (int f = 0; f < 4; f++) w.fountain(1);
        due("3 d 0", w.jar(0, 1, 1, 1, 1, 0), -1);
        due("3 d 31", w.jar(0, 1, 1, 1, 1, 31), -1);
        due("3 all four", w.jar(0, 1, 4, 5, 6, 7), 0);
        for (int f = 0; f < 4; f++) {
            w.man(0, 1, f, 0);
            due("3 minutes from " + f, w.told(f, 7), 4 + f);
        }
    }

    private static void jarHoldsNoMore() {
        WaterMen w = new WaterMen();
        w.fountain(20);
        w.jar(0, 3, 1, 0, 0, 0);
        w.man(0, 5, 0, 0);
        w.run(2);
        due("3 a jar holds what was told", w.water(0, 1), 3);
        dueMan(w, "3 he keeps the rest", 0, 2, 1, 2, 3);
    }

    private static void promise4() {
        WaterMen w = new WaterMen();
        due("4 no jar", w.drinks(0, 1), -1);
        w.fountain(20);
        w.jar(0, 10, 1, 0, 0, 0);
        w.jar(0, 10, 1, 0, 0, 0);
        due("4 first", w.drinks(0, 9), 0);
        due("4 again", w.drinks(0, 3), 9);
        due("4 n 10", w.drinks(0, 10), -1);
        due("4 n -1", w.drinks(0, -1), -1);
        due("4 jar 2", w.drinks(2, 1), -1);
        for (int wild : WILD) {
            due("4 jar " + wild, w.drinks(wild, 1), -1);
            due("4 n " + wild, w.drinks(0, wild), -1);
        }
        due("4 refused changes nothing", w.drinks(0, 3), 3);
        due("4 the other jar's own", w.drinks(1, 0), 0);
        w.man(0, 10, 0, 0);
        w.run(2);
        due("4 poured 10, then 3 drunk in the same minute", w.water(0, 1), 7);
        w.run(1);
        due("4 each minute", w.water(0, 1), 4);
        due("4 drunk", w.water(0, 3), 6);
        w.drinks(0, 9);
        w.run(1);
        due("4 as far as it has", w.water(0, 3), 10);
        due("4 none is left", w.water(0, 1), 0);
        due("4 what it was", w.drinks(0, 0), 9);
    }

    private static void promise5() {
        WaterMen w = new WaterMen();
        due("5 nothing there", w.man(0, 5, 0, 0), -1);
        w.fountain(1);
        due("5 no jar", w.man(0, 5, 0, 0), -1);
        w.jar(4, 10, 3, 0, 0, 0);
        w.jar(5, 10, 3, 0, 0, 0);
        due("5 kind -1", w.man(-1, 5, 0, 0), -1);
        due("5 kind 3", w.man(3, 5, 0, 0), -1);
        due("5 load 0", w.man(0, 0, 0, 0), -1);
        due("5 load 41", w.man(0, 41, 0, 0), -1);
        for (int wild : WILD) {
            due("5 kind " + wild, w.man(wild, 5, 0, 0), -1);
            due("5 load " + wild, w.man(0, wild, 0, 0), -1);
            due("5 fountain " + wild, w.man(0, 5, wild, 0), -1);
            due("5 jar " + wild, w.man(0, 5, 0, wild), -1);
        }
        due("5 fountain 1", w.man(0, 5, 1, 0), -1);
        due("5 jar 2", w.man(0, 5, 0, 2), -1);
        due("5 floor 5", w.man(0, 5, 0, 1), -2);
        due("5 BAD ahead of NOT", w.man(0, 41, 0, 1), -1);
        due("5 none came", w.count(2), 0);
        due("5 floor 4, load 40", w.man(0, 40, 0, 0), 0);
        due("5 strong, load 1", w.man(1, 1, 0, 1), 1);
        due("5 donkey", w.man(2, 5, 0, 1), 2);
        dueMan(w, "5 man", 0, 0, 0, 0, 0, 0, 0, 7, 3, 0);
        dueMan(w, "5 strong", 1, 0, 1, 0, 0, 0, 1, 6, 3, 1);
        dueMan(w, "5 donkey", 2, 0, 2, 0, 0, 0, 1, 2, 2, 2);
        for (int i = 3; i < 10; i++) due("5 man " + i, w.man(0, 5, 0, 0), i);
        due("5 eleventh", w.man(0, 5, 0, 0), -3);
        due("5 NOT ahead of FULL", w.man(0, 5, 0, 1), -2);
        due("5 BAD ahead of FULL", w.man(0, 5, 0, 2), -1);
        due("5 ten", w.count(2), 10);
        due("5 all in a row", w.count(3), 10);
        due("5 the last is behind all", w.told(9, 1), 9);
    }

    private static void promise6() {
        WaterMen w = new WaterMen();
        due("6 no man", w.right(0, 0), -1);
        w.fountain(1);
        w.jar(0, 10, 1, 0, 0, 0);
        for (int i = 0; i < 4; i++) w.man(0, 5, 0, 0);
        due("6 first", w.right(2, 3), 0);
        due("6 again", w.right(2, 1), 3);
        due("6 r 4", w.right(2, 4), -1);
        due("6 r -1", w.right(2, -1), -1);
        due("6 man 4", w.right(4, 1), -1);
        for (int wild : WILD) {
            due("6 man " + wild, w.right(wild, 1), -1);
            due("6 r " + wild, w.right(2, wild), -1);
        }
        due("6 refused changes nothing", w.right(2, 2), 1);
        due("6 who came later with the like", w.right(3, 2), 0);
        due("6 greatest first", w.told(2, 1), 0);
        due("6 of like ones who came first", w.told(3, 1), 1);
        due("6 then the others", w.told(0, 1), 2);
        due("6 then the others", w.told(1, 1), 3);
        w.run(1);
        due("6 he fills", w.told(2, 2), 1);
        w.right(1, 3);
        w.run(2);
        due("6 a greater right goes ahead", w.told(1, 2), 2);
        due("6 of him who began", w.told(2, 2), 1);
        w.right(1, 0);
        w.right(2, 0);
        w.right(3, 0);
        due("6 with like rights as they came", w.told(0, 1), 0);
        due("6 with like rights as they came", w.told(3, 1), 3);
    }

    private static void promise7() {
        WaterMen w = new WaterMen();
        due("7 no man", w.pace(0, 1), -1);
        w.fountain(10);
        w.jar(9, 10, 7, 0, 0, 0);
        w.jar(0, 10, 7, 0, 0, 0);
        w.man(0, 5, 0, 1);
        w.man(1, 5, 0, 0);
        w.man(2, 5, 0, 0);
        due("7 a man", w.pace(0, 1), -13);
        due("7 a strong one", w.pace(1, 5), -13);
        due("7 BAD ahead of CAST", w.pace(0, 0), -1);
        due("7 BAD ahead of CAST", w.pace(1, 6), -1);
        for (int wild : WILD) {
            due("7 man " + wild, w.pace(wild, 1), -1);
            due("7 p " + wild, w.pace(2, wild), -1);
        }
        due("7 man 3", w.pace(3, 1), -1);
        int[] ways = {7, 4, 3, 2, 2};
        int was = 2;
        for (int p = 1; p <= 5; p++) {
            due("7 what it was", w.pace(2, p), was);
            due("7 way up by " + p, w.told(2, 6), ways[p - 1]);
            due("7 way down by " + p, w.told(2, 7), ways[p - 1]);
            was = p;
        }
        due("7 p 0", w.pace(2, 0), -1);
        due("7 p 6", w.pace(2, 6), -1);
        due("7 refused changes nothing", w.pace(2, 1), 5);
        w.right(2, 1);
        w.run(1);
        due("7 goes up", w.told(2, 1), 7);
        w.pace(2, 5);
        due("7 who is on his way has the minutes he had", w.told(2, 1), 7);
    }

    private static void promise8() {
        WaterMen w = new WaterMen();
        due("8 nobody", w.moves(0, 0, 0), -1);
        w.fountain(3);
        w.fountain(20);
        w.jar(0, 10, 1, 2, 0, 0);
        w.jar(5, 10, 3, 4, 0, 0);
        w.man(0, 8, 0, 0);
        w.man(0, 8, 0, 0);
        w.man(1, 8, 1, 0);
        for (int wild : WILD) {
            due("8 man " + wild, w.moves(wild, 0, 0), -1);
            due("8 fountain " + wild, w.moves(0, wild, 0), -1);
            due("8 jar " + wild, w.moves(0, 0, wild), -1);
        }
        due("8 man 3", w.moves(3, 0, 0), -1);
        due("8 fountain 2", w.moves(0, 2, 0), -1);
        due("8 jar 2", w.moves(0, 0, 2), -1);
        due("8 floor 5", w.moves(0, 1, 1), -2);
        dueMan(w, "8 refused changes nothing", 0, 0, 0, 0, 0, 0, 0);
        w.open(1, false);
        w.run(1);
        due("8 to another fountain", w.moves(0, 1, 0), 1);
        dueMan(w, "8 behind all, with what he carries", 0, 0, 1, 3, 0, 1, 0, 2, 2);
        due("8 the next one moves up", w.told(1, 1), 0);
        due("8 to another jar", w.moves(2, 1, 1), 1);
        dueMan(w, "8 behind all again", 2, 0, 1, 0, 0, 1, 1, 7, 4);
        due("8 he is ahead then", w.told(0, 1), 0);
        due("8 to the same ones", w.moves(0, 1, 0), 1);
        due("8 behind all again", w.told(0, 1), 1);
        due("8 all are in rows", w.count(3), 3);
        due("8 alone to the same ones", w.moves(1, 0, 0), 1);
        due("8 alone in his row", w.told(1, 1), 0);
    }

    private static void promise8OnTheWay() {
        WaterMen w = new WaterMen();
        w.fountain(20);
        w.jar(0, 10, 2, 0, 0, 0);
        w.jar(5, 10, 2, 0, 0, 0);
        w.man(0, 5, 0, 0);
        w.run(1);
        due("8 up", w.moves(0, 0, 0), -2);
        due("8 BAD ahead of NOT", w.moves(0, 1, 0), -1);
        w.run(2);
        due("8 he goes down", w.told(0, 0), 2);
        due("8 down", w.moves(0, 0, 0), -2);
        w.run(2);
        due("8 in a row again", w.moves(0, 0, 0), 1);
        due("8 not to that floor", w.moves(0, 0, 1), -2);
    }

    private static void promise9() {
        WaterMen w = new WaterMen();
        due("9 none", w.open(0, true), -1);
        w.fountain(4);
        w.fountain(6);
        w.jar(0, 10, 1, 1, 0, 0);
        w.man(0, 4, 0, 0);
        for (int wild : WILD) due("9 " + wild, w.open(wild, false), -1);
        due("9 fountain 2", w.open(2, false), -1);
        due("9 open at first", w.open(0, false), 1);
        due("9 shut then", w.open(0, false), 0);
        w.run(3);
        due("9 shut gains nothing", w.water(0, 0), 0);
        due("9 the other does", w.water(1, 0), 18);
        dueSums(w, "9", 18, 0, 0);
        dueMan(w, "9 nobody fills", 0, 0, 0, 0);
        due("9 it was shut", w.open(0, true), 0);
        due("9 it is open", w.open(0, true), 1);
        w.run(1);
        dueMan(w, "9 he fills and goes", 0, 1, 1, 4);
        fullOneWaitsAtShut();
    }

    private static void fullOneWaitsAtShut() {
        WaterMen w = new WaterMen();
        w.fountain(10);
        w.jar(0, 1, 1, 0, 0, 0);
        w.man(0, 4, 0, 0);
        w.man(0, 1, 0, 0);
        // MAN 0 pours 1 of 4 and fills up again; MAN 1 comes to a full JAR and back with all he has.
        w.run(4);
        dueMan(w, "9 back, full", 1, 0, 0, 1, 0);
        dueMan(w, "9 up, full", 0, 1, 1, 4, 1);
        w.open(0, false);
        w.run(5);
        dueMan(w, "9 shut: nobody leaves", 1, 0, 0, 1, 0);
        dueMan(w, "9 shut: he comes all the same", 0, 0, 1, 4, 1);
        w.open(0, true);
        w.run(1);
        dueMan(w, "9 open: he leaves", 1, 1, 1, 1, 0);
        dueMan(w, "9 the other one waits", 0, 0, 0, 4, 1);
    }

    private static void promise10() {
        WaterMen w = new WaterMen();
        w.fountain(19);
        w.fountain(1);
        due("10 p -1", w.drought(-1), -1);
        due("10 p 101", w.drought(101), -1);
        for (int wild : WILD) due("10 p " + wild, w.drought(wild), -1);
        due("10 none was", w.drought(50), 100);
        w.run(1);
        due("10 half of 19, cut down", w.water(0, 0), 9);
        due("10 half of 1, cut down", w.water(1, 0), 0);
        due("10 what it was", w.drought(99), 50);
        w.run(1);
        due("10 99 hundredths", w.water(0, 0), 9 + 18);
        due("10 what it was", w.drought(0), 99);
        w.run(5);
        due("10 nothing flows", w.water(0, 0), 27);
        due("10 what it was", w.drought(100), 0);
        w.run(1);
        due("10 all flows", w.water(0, 0), 46);
        due("10 flowed", w.sum(0), 9 + 18 + 19 + 1);
    }

    private static void promise11() {
        WaterMen w = new WaterMen();
        due("11 n 0", w.type(0x30, 0), -1);
        due("11 n 9", w.type(0x3030303030303030L, 9), -1);
        for (int wild : WILD) due("11 n " + wild, w.type(0x3030303030303030L, wild), -1);
        due("11 byte 31", w.type(31, 1), -1);
        due("11 byte 127", w.type(127, 1), -1);
        due("11 byte 255", w.type(-1L, 8), -1);
        due("11 byte 128", w.type(0x80, 1), -1);
        due("11 the lowest is bad", w.type(0x3001, 2), -1);
        due("11 the highest is bad", w.type(0x0130303030303030L, 8), -1);
        due("11 byte 0", w.type(0x30, 2), -1);
        due("11 byte 32", w.type(32, 1), 1);
        due("11 byte 126", w.type(126, 1), 2);
        due("11 bytes above are not looked at", w.type(0xFF01FFFFFFFF7F30L, 1), 3);
        due("11 eight", w.type(0x3031323334353637L, 8), 11);
        for (int i = 0; i < 4; i++) w.type(0x2020202020202020L, 8);
        due("11 to 49", w.type(0x202020202020L, 6), 49);
        due("11 FULL by two", w.type(0x2020, 2), -3);
        due("11 BAD ahead of FULL", w.type(0x2001, 2), -1);
        due("11 fifty", w.type(0x20, 1), 50);
        due("11 FULL", w.type(0x20, 1), -3);
        w.fares();
        due("11 empty again", w.type(0x20, 1), 1);
        w.fares();
        w.type(0x303A37L, 3);
        due("11 the highest first", w.fares(), 1);
        due("11 the highest first", w.fare(0), 7);
        w.type(0x303AL, 2);
        w.type(0x3939L, 2);
        due("11 behind the tape", w.fares(), 1);
        due("11 behind the tape", w.fare(0), 99);
    }

    private static void promise12Clauses() {
        WaterMen w = new WaterMen();
        due("12 one", faresOf(w, "3:99"), 1);
        duePrices(w, "12 not told costs 0", 0, 0, 0, 99, 0, 0, 0, 0, 0, 0);
        due("12 from to", faresOf(w, "0-9:5;4-6:7;5:0"), 3);
        duePrices(w, "12 the latter holds", 5, 5, 5, 5, 7, 0, 7, 5, 5, 5);
        due("12 the latter holds though wider", faresOf(w, "5:1;0-9:2"), 2);
        duePrices(w, "12 wider", 2, 2, 2, 2, 2, 2, 2, 2, 2, 2);
        due("12 from and to alike", faresOf(w, "9-9:4"), 1);
        duePrices(w, "12 alike", 0, 0, 0, 0, 0, 0, 0, 0, 0, 4);
        due("12 five", faresOf(w, "0:1;1:2;2:3;3:4;4:5"), 5);
        duePrices(w, "12 five", 1, 2, 3, 4, 5, 0, 0, 0, 0, 0);
        due("12 the tape is empty then", w.type(0x30, 1), 1);
        due("12 a fault", w.fares(), -21);
        due("12 the tape is empty then, too", w.type(0x30, 1), 1);
        w.fares();
        duePrices(w, "12 a fault: fares stay", 1, 2, 3, 4, 5, 0, 0, 0, 0, 0);
        due("12 a late fault", faresOf(w, "0-9:7;0"), -27);
        duePrices(w, "12 a late fault: fares stay", 1, 2, 3, 4, 5, 0, 0, 0, 0, 0);
        due("12 as the number is", faresOf(w, "007:012"), 1);
        duePrices(w, "12 as the number is", 0, 0, 0, 0, 0, 0, 0, 12, 0, 0);
        due("12 fifty bytes", faresOf(w, " 0 - 1 : 2 ; 3 : 44 ; 5 : 6 ; 7 : 8 ;  8 - 9 : 9 "), 5);
        duePrices(w, "12 fifty bytes", 2, 2, 0, 44, 0, 6, 0, 8, 9, 9);
    }

    private static void promise12Faults() {
        String[] texts = {"", "0", "0:", "0-", "0-1", "0-1:", "0:1;", "0:1;2", ":", "-", ";", "x", "0x", "0:x", "0-x",
            "0:1x", "0:1:", "0:1-", "0;1", "0-1-2:3", "0--1:2", "0::1", "0:1;;1:1", "10:1", "99:1", "0-10:1", "0-99999999999999999999:1",
            "0:100", "0:4294967296", "0:99999999999999999999999999999999999999999999999", "5-4:1", "9-0:1", "5-4", "5-4x", "10", "100x",
            "0:1;0:1;0:1;0:1;0:1;", "0:1;0:1;0:1;0:1;0:1;0:1", "0:1;0:1;0:1;0:1;0:1x", "0:1;0:1;0:1;0:1;0", "0:+1", "0:-1", "a", "0:a0", "0:9/", "0:9:"};
        int[] places = {0, 1, 2, 2, 3, 4, 4, 5, 0, 0, 0, 0, 1, 2, 2,
            3, 3, 3, 1, 3, 2, 2, 4, 0, 0, 2, 2,
            2, 2, 2, 2, 2, 2, 2, 0, 0,
            19, 19, 19, 17, 2, 2, 0, 2, 3, 3};
        WaterMen w = new WaterMen();
        for (int i = 0; i < texts.length; i++) due("12 fares of '" + texts[i] + "'", faresOf(w, texts[i]), -20 - places[i]);
        duePrices(w, "12 fares stay", 1, 1, 1, 1, 1, 1, 1, 1, 1, 1);
    }

    private static void promise12Blanks() {
        String[] texts = {" ", "   ", "0 ", "0 : ", " x", "0  x", "0:1  x", "1 0:1", "0:1 2", "0-  5 1:1", "0:  100 ", "5 -  4 : 1",
            "  10 : 1", "0:1 ; ", "0:1;0:1;0:1;0:1;0:1  ; 0:1", "                                                  "};
        int[] places = {1, 3, 2, 4, 1, 3, 5, 2, 4, 6, 4, 5, 2, 6, 21, 50};
        WaterMen w = new WaterMen();
        for (int i = 0; i < texts.length; i++) due("12 fares of '" + texts[i] + "'", faresOf(w, texts[i]), -20 - places[i]);
        due("12 blanks count for nothing", faresOf(w, "  1 -  2  :  34  "), 1);
        duePrices(w, "12 blanks", 0, 34, 34, 0, 0, 0, 0, 0, 0, 0);
    }

    private static void promise13() {
        WaterMen w = new WaterMen();
        due("13 floor -1", w.fare(-1), -1);
        due("13 floor 10", w.fare(10), -1);
        for (int wild : WILD) due("13 floor " + wild, w.fare(wild), -1);
        due("13 at first", w.fare(0), 1);
        due("13 at first", w.fare(9), 1);
        faresOf(w, "9:98;0:99");
        due("13 floor 0", w.fare(0), 99);
        due("13 floor 9", w.fare(9), 98);
        due("13 not told", w.fare(4), 0);
    }
}
