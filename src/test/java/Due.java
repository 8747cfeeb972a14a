/** What the tests share: an answer beside the one that is due, and texts for THE TAPE. */
abstract class Due {
    static final int[] WILD = {Integer.MIN_VALUE, Integer.MIN_VALUE + 1, -1000, -1, 1000, Integer.MAX_VALUE - 5, Integer.MAX_VALUE};

    private static int asked = 0, wrong = 0;

    static void due(String call, long got, long want) {
        asked++;
        if (got == want) return;
        wrong++;
        if (wrong <= 40) System.out.println(call + " answered " + got + ", due is " + want);
    }

    static int asked() {
        return asked;
    }

    static int wrong() {
        return wrong;
    }

    static void end() {
        System.out.println(asked + " answers, " + wrong + " not as due");
        if (wrong != 0 || asked == 0) System.exit(1);
    }

    /** Types a text in pieces of up to eight bytes; the last answer. */
    static int typeText(WaterMen w, String text) {
        int answer = 0;
        for (int at = 0; at < text.length(); at += 8) {
            String piece = text.substring(at, Math.min(text.length(), at + 8));
            long word = 0;
            for (char c : piece.toCharArray()) word = word << 8 | c;
            answer = w.type(word, piece.length());
        }
        return answer;
    }

    static int faresOf(WaterMen w, String text) {
        typeText(w, text);
        return w.fares();
    }

    /** The prices of all FLOORS, from FLOOR 0 on. */
    static void duePrices(WaterMen w, String call, int... prices) {
        for (int floor = 0; floor < 10; floor++) due(call + " fare(" + floor + ")", w.fare(floor), prices[floor]);
    }

    static void dueSums(WaterMen w, String call, long... sums) {
        for (int what = 0; what < sums.length; what++) due(call + " sum(" + what + ")", w.sum(what), sums[what]);
    }

    /** What a MAN does, his minutes or those ahead, what he carries, what he has earned. */
    static void dueMan(WaterMen w, String call, int man, int... told) {
        for (int what = 0; what < told.length; what++) {
            due(call + " told(" + man + ", " + what + ")", w.told(man, what), told[what]);
        }
    }

    static void dueCounts(WaterMen w, String call, int... counts) {
        for (int what = 0; what < counts.length; what++) {
            due(call + " count(" + what + ")", w.count(what), counts[what]);
        }
    }
}
