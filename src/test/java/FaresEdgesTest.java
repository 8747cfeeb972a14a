/** The edges of THE TAPE and of FARES: promises 11 to 13, a test for each sentence that names one. */
public final class FaresEdgesTest extends Edges {
    public static void main(String[] args) {
        ofTheTape();
        ofClauses();
        ofFaults();
        ofPrices();
        end();
    }

    // ---- THE TAPE

    private static void ofTheTape() {
        sentence("11 The n lowest bytes (1 .. 8) of w", FaresEdgesTest::lowestBytes);
        sentence("11 of these the highest first", FaresEdgesTest::highestFirst);
        sentence("11 come behind THE TAPE: how many it has", FaresEdgesTest::behindTheTape);
        sentence("11 BAD: n", FaresEdgesTest::noSuchN);
        sentence("11 (BAD:) a byte not 32 .. 126", FaresEdgesTest::noSuchByte);
        sentence("11 FULL: 50", FaresEdgesTest::fiftyBytes);
    }

    private static void lowestBytes() {
        for (int n = 1; n <= 8; n++) {
            // Above the n lowest all bytes are 255: they must not be looked at.
            long above = n == 8 ? 0 : -1L << 8 * n;
            long blanks = 0x2020202020202020L & ~above;
            WaterMen w = new WaterMen();
            due(n + " bytes", w.type(above | blanks, n), n);
            due("these and no more", w.fares(), -20 - n);
        }
    }

    private static void highestFirst() {
        WaterMen w = new WaterMen();
        w.type(0x31323A3334L, 5);
        due("12:34 has its fault at the 1", w.fares(), -20);
        w.type(0x313A3334L, 4);
        due("1:34", w.fares(), 1);
        due("the price is 34", w.fare(1), 34);
        w.type(0x302D323A3320203BL, 8);
        due("0-2:3  ; lacks a clause at 8", w.fares(), -28);
    }

    private static void behindTheTape() {
        WaterMen w = new WaterMen();
        due("one", w.type('7', 1), 1);
        due("two", w.type(':', 1), 2);
        due("four", w.type(0x3132, 2), 4);
        due("7:12", w.fares(), 1);
        due("the price", w.fare(7), 12);
        due("from an empty tape", w.type(0x2020202020202020L, 8), 8);
        due("from an empty tape", w.type(0x20202020202020L, 7), 15);
    }

    private static void noSuchN() {
        WaterMen w = new WaterMen();
        dueBadOutside("type", 1, 8, n -> w.type(0x3030303030303030L, n));
        due("nothing came", w.type('0', 1), 1);
    }

    private static void noSuchByte() {
        for (int b = 0; b < 256; b++) {
            due("byte " + b, new WaterMen().type(b, 1), b < 32 || b > 126 ? -1 : 1);
        }
        WaterMen w = new WaterMen();
        for (int place = 0; place < 8; place++) {
            long rest = 0x4040404040404040L & ~(255L << 8 * place);
            for (long b : new long[] {0, 31, 127, 128, 255}) {
                due("byte " + b + " at " + place, w.type(rest | b << 8 * place, 8), -1);
            }
            for (long b : new long[] {32, 126}) {
                due("byte " + b + " at " + place, new WaterMen().type(rest | b << 8 * place, 8), 8);
            }
        }
        due("nothing came", w.type('0', 1), 1);
    }

    private static void fiftyBytes() {
        for (int n = 1; n <= 8; n++) {
            WaterMen w = new WaterMen();
            int has = 0;
            while (has + n <= 50) {
                has += n;
                due("up to " + has + " by " + n, w.type(0x2020202020202020L, n), has);
            }
            due("beyond 50 by " + n, w.type(0x2020202020202020L, n), -3);
            if (has < 50) due("just 50", w.type(0x2020202020202020L, 50 - has), 50);
            due("one more", w.type(0x20, 1), -3);
            due("fifty were there", w.fares(), -70);
            due("room again", w.type(0x20, 1), 1);
        }
    }

    // ---- CLAUSES

    private static void ofClauses() {
        sentence("FARES are a TEXT: 1 to 5 CLAUSES with ; between", FaresEdgesTest::oneToFiveClauses);
        sentence("a FLOOR, or a FLOOR - a FLOOR", FaresEdgesTest::floorsOfAClause);
        sentence("(not less)", FaresEdgesTest::notLess);
        sentence("a price 0 .. 99 of a measure", FaresEdgesTest::pricesOfAClause);
        sentence("of a FLOOR told twice the latter one holds", FaresEdgesTest::theLatterHolds);
        sentence("one not told costs 0", FaresEdgesTest::notToldCostsNothing);
        sentence("At first \"0-9:1\"", () -> duePrices(new WaterMen(), "at first", 1, 1, 1, 1, 1, 1, 1, 1, 1, 1));
        sentence("12 THE TAPE, which is empty then, is FARES", FaresEdgesTest::emptyThen);
    }

    private static void oneToFiveClauses() {
        String text = "";
        for (int clauses = 1; clauses <= 5; clauses++) {
            text += (clauses > 1 ? ";" : "") + clauses + ":" + (10 + clauses);
            WaterMen w = new WaterMen();
            due("fares of '" + text + "'", faresOf(w, text), clauses);
            for (int floor = 0; floor <= 9; floor++) {
                due("fare " + floor + " of '" + text + "'", w.fare(floor), floor >= 1 && floor <= clauses ? 10 + floor : 0);
            }
        }
        due("no clause", faresOf(new WaterMen(), ""), -20);
        due("none behind the ;", faresOf(new WaterMen(), "0:1;"), -24);
        due("none ahead of the ;", faresOf(new WaterMen(), ";0:1"), -20);
        due("none between", faresOf(new WaterMen(), "0:1;;2:3"), -24);
        due("no ; between", faresOf(new WaterMen(), "0:1,2:3"), -23);
    }

    private static void floorsOfAClause() {
        for (int from = 0; from <= 9; from++) {
            WaterMen w = new WaterMen();
            due("a floor " + from, faresOf(w, from + ":6"), 1);
            for (int floor = 0; floor <= 9; floor++) due("told alone " + from, w.fare(floor), floor == from ? 6 : 0);
            for (int to = from; to <= 9; to++) {
                due(from + " to " + to, faresOf(w, from + "-" + to + ":8"), 1);
                for (int floor = 0; floor <= 9; floor++) {
                    due(from + " to " + to + " at " + floor, w.fare(floor), floor >= from && floor <= to ? 8 : 0);
                }
            }
        }
        due("floor 10", faresOf(new WaterMen(), "10:1"), -20);
        due("to floor 10", faresOf(new WaterMen(), "9-10:1"), -22);
        due("one too many", faresOf(new WaterMen(), "1-2-3:1"), -23);
    }

    private static void notLess() {
        for (int from = 0; from <= 9; from++) {
            for (int to = 0; to <= 9; to++) {
                due(from + "-" + to, faresOf(new WaterMen(), from + "-" + to + ":1"), to < from ? -22 : 1);
            }
        }
    }

    private static void pricesOfAClause() {
        WaterMen w = new WaterMen();
        for (int price = 0; price <= 99; price++) {
            due("price " + price, faresOf(w, "4:" + price), 1);
            due("price " + price, w.fare(4), price);
        }
        due("100", faresOf(w, "4:100"), -22);
        due("999", faresOf(w, "4:999"), -22);
        due("2 to the 32nd", faresOf(w, "4:4294967296"), -22);
        due("2 to the 64th, and 5", faresOf(w, "4:18446744073709551621"), -22);
        due("forty-eight digits", faresOf(w, "4:" + "9".repeat(48)), -22);
        due("less than nothing", faresOf(w, "4:-1"), -22);
        due("none", faresOf(w, "4:"), -22);
    }

    private static void theLatterHolds() {
        WaterMen w = new WaterMen();
        due("the same twice", faresOf(w, "5:7;5:3"), 2);
        due("the same twice", w.fare(5), 3);
        due("over a part", faresOf(w, "0-9:4;3-5:0;4:9"), 3);
        duePrices(w, "over a part", 4, 4, 4, 0, 9, 0, 4, 4, 4, 4);
        due("over all", faresOf(w, "3:5;0-9:2"), 2);
        duePrices(w, "over all", 2, 2, 2, 2, 2, 2, 2, 2, 2, 2);
        due("over the edges", faresOf(w, "0-5:1;5-9:2"), 2);
        duePrices(w, "over the edges", 1, 1, 1, 1, 1, 2, 2, 2, 2, 2);
    }

    private static void notToldCostsNothing() {
        WaterMen w = new WaterMen();
        faresOf(w, "1-8:50");
        duePrices(w, "of the first fares none stay", 0, 50, 50, 50, 50, 50, 50, 50, 50, 0);
        faresOf(w, "0:9");
        duePrices(w, "of the fares before none stay", 9, 0, 0, 0, 0, 0, 0, 0, 0, 0);
        faresOf(w, "9:8");
        duePrices(w, "nor of those before these", 0, 0, 0, 0, 0, 0, 0, 0, 0, 8);
    }

    private static void emptyThen() {
        WaterMen w = new WaterMen();
        due("told", faresOf(w, "0:5"), 1);
        due("empty then", w.fares(), -20);
        due("the next from 1 on", w.type('0', 1), 1);
        due("a fault", w.fares(), -21);
        due("empty then, too", w.fares(), -20);
        due("the next from 1 on", w.type('0', 1), 1);
    }

    // ---- FAULTS

    private static void ofFaults() {
        sentence("12 FAULTS: -20 less the place of the first byte that can't stand there", FaresEdgesTest::firstWrongByte);
        sentence("12 (behind blanks)", FaresEdgesTest::behindBlanks);
        sentence("12 (the end: how many bytes there are)", FaresEdgesTest::theEnd);
        sentence("12 bytes 32 count for nothing", FaresEdgesTest::blanksCountForNothing);
        sentence("12 (bytes 32) do not stand in a number", FaresEdgesTest::blanksInANumber);
        sentence("12 of a number that is not as it may be its first byte", FaresEdgesTest::wrongNumbers);
        sentence("12 a sixth CLAUSE's ; can't", FaresEdgesTest::sixthClause);
        sentence("12 (A FAULT: FARES stay.)", FaresEdgesTest::faresStay);
    }

    private static void dueFault(String text, int place) {
        due("fares of '" + text + "'", faresOf(new WaterMen(), text), -20 - place);
    }

    /** Each byte of 33 .. 126 at each place of a clause: it may stand there or is the fault. */
    private static void firstWrongByte() {
        String[] begun = {"", "3", "3-", "3-5", "3-5:", "3-5:7", "3:", "3:7"};
        String[] signs = {"", "-:", "", ":", "", ";", "", ";"};
        for (int i = 0; i < begun.length; i++) {
            for (char c = 33; c < 127; c++) {
                if (c >= '0' && c <= '9' || signs[i].indexOf(c) >= 0) continue;
                dueFault(begun[i] + c, begun[i].length());
                dueFault(begun[i] + c + "3:7", begun[i].length());
            }
        }
        dueFault("1:1;2:2;3:3;4:x", 14);
        dueFault("x:1;y:2", 0);
    }

    private static void behindBlanks() {
        dueFault(" x", 1);
        dueFault("   3   x", 7);
        dueFault("3  -  x", 6);
        dueFault("3-5  ;", 5);
        dueFault("3:  x", 4);
        dueFault("3:7   x", 6);
        dueFault("3:7;  x", 6);
        dueFault("3:   100", 5);
        dueFault("   10:1", 3);
        dueFault("5-   4:1", 5);
    }

    private static void theEnd() {
        String whole = "0-1:2;3:4;5-6:78;9:9;8:7";
        for (int length = 0; length <= whole.length(); length++) {
            String text = whole.substring(0, length);
            // Behind a price the text may end.
            boolean ends = text.endsWith(":2") || text.endsWith(":4") || text.endsWith(":7") || text.endsWith("78")
                    || text.endsWith(":9");
            if (!ends) {
                dueFault(text, length);
                dueFault(text + "   ", length + 3);
            } else {
                due("fares of '" + text + "'", faresOf(new WaterMen(), text) > 0 ? 1 : 0, 1);
            }
        }
        dueFault(" ".repeat(50), 50);
    }

    private static void blanksCountForNothing() {
        WaterMen w = new WaterMen();
        due("all about", faresOf(w, "  1  -  2  :  34  ;  5  :  6  "), 2);
        duePrices(w, "all about", 0, 34, 34, 0, 0, 6, 0, 0, 0, 0);
        due("none", faresOf(w, "1-2:34;5:7"), 2);
        duePrices(w, "none", 0, 34, 34, 0, 0, 7, 0, 0, 0, 0);
        due("fifty bytes", faresOf(w, " ".repeat(23) + "1:2" + " ".repeat(24)), 1);
        duePrices(w, "fifty bytes", 0, 2, 0, 0, 0, 0, 0, 0, 0, 0);
    }

    private static void blanksInANumber() {
        dueFault("0 1:1", 2);
        dueFault("0-1 2:1", 4);
        dueFault("0:1 2", 4);
        dueFault("0:1   2", 6);
        dueFault("0:9 9;1:1", 4);
    }

    private static void wrongNumbers() {
        dueFault("10:1", 0);
        dueFault("4294967296:1", 0);
        dueFault("0:1;19:1", 4);
        dueFault("0-10:1", 2);
        dueFault("7-6:1", 2);
        dueFault("7-66:1", 2);
        dueFault("0:100", 2);
        dueFault("0:100;", 2);
        dueFault("0:100x", 2);
        dueFault("0:1;2:12345", 6);
        dueFault("1" + "0".repeat(49), 0);
    }

    private static void sixthClause() {
        String five = "0:1;1:1;2:1;3:1;4:1";
        due("five", faresOf(new WaterMen(), five), 5);
        dueFault(five + ";", 19);
        dueFault(five + ";5:1", 19);
        dueFault(five + ";x", 19);
        dueFault(five + "  ; 5:1", 21);
        dueFault(five + "x", 19);
        due("blanks", faresOf(new WaterMen(), five + "   "), 5);
    }

    private static void faresStay() {
        WaterMen w = new WaterMen();
        for (String text : new String[] {"", " ", "0-9:7;", "0-9:7;0", "0-9:7;0:100", "0:7;1:7;2:7;3:7;4:7;5:7", "0-9:7x"}) {
            due("a fault in '" + text + "'", faresOf(w, text) <= -20 ? 1 : 0, 1);
            duePrices(w, "the first ones, behind '" + text + "'", 1, 1, 1, 1, 1, 1, 1, 1, 1, 1);
        }
        due("told", faresOf(w, "2-3:5"), 1);
        due("a fault", faresOf(w, "0-9:7;x"), -26);
        duePrices(w, "those told", 0, 0, 5, 5, 0, 0, 0, 0, 0, 0);
    }

    // ---- the price of a FLOOR

    private static void ofPrices() {
        sentence("13 The price of a FLOOR", FaresEdgesTest::pricesOfFloors);
        sentence("13 BAD", () -> dueBadOutside("fare", 0, 9, floor -> new WaterMen().fare(floor)));
    }

    private static void pricesOfFloors() {
        WaterMen w = new WaterMen();
        faresOf(w, "0:99;9:98;4-5:0;6:1");
        duePrices(w, "told", 99, 0, 0, 0, 0, 0, 1, 0, 0, 98);
    }
}
