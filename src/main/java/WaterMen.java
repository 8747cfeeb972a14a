import java.util.ArrayList;
import java.util.Arrays;

/** Water men of a city without pipes, minute by minute, each drop counted. */
public final class WaterMen {
    public static final int BAD = -1, NOT = -2, FULL = -3, NONE = -4, CAST = -13;

    private static final int MOST_FOUNTAINS = 4, MOST_JARS = 8, MOST_MEN = 10;
    private static final int MOST_FLOW = 20, MOST_FOUNTAIN_WATER = 300;
    private static final int TOP_FLOOR = 9, TOP_FLOOR_OF_A_MAN = 4;
    private static final int MOST_HELD = 200, MOST_MINUTES = 30, MOST_DRUNK = 9;
    private static final int MAN_KIND = 0, STRONG_KIND = 1, DONKEY_KIND = 2;
    private static final int MOST_LOAD = 40, MOST_RIGHT = 3, MOST_PACE = 5, FIRST_PACE = 2;
    private static final int MOST_FILLED_A_MINUTE = 10;
    private static final int MOST_RUN = 500, LAST_TIME = 20000, MOST_NEAR = 60;
    private static final int IN_ROW = 0, GOES_UP = 1, GOES_DOWN = 2;
    private static final int FLOWED = 0, RAN_OFF = 1, FILLED = 2, POURED = 3, DRUNK = 4,
            THROWN = 5, EARNED = 6, THE_TIME = 7;

    private final ArrayList<Fountain> fountains = new ArrayList<>();
    private final ArrayList<Jar> jars = new ArrayList<>();
    private final ArrayList<Man> men = new ArrayList<>();
    private final Fares prices = new Fares();
    private final Pourings pourings = new Pourings();
    private final Giving giving = new Giving();
    private final long[] sums = new long[THE_TIME];
    private int time = 0;
    private int hundredths = 100;

    public WaterMen() {
    }

    // ---- 1 the city

    public int fountain(int flow) {
        if (outside(flow, 1, MOST_FLOW)) return BAD;
        if (!jars.isEmpty()) return NOT;
        int number = fountains.size();
        if (number >= MOST_FOUNTAINS) return FULL;
        fountains.add(new Fountain(number, flow));
        return number;
    }

    public int jar(int floor, int holds, int a, int b, int c, int d) {
        if (outside(floor, 0, TOP_FLOOR) || outside(holds, 1, MOST_HELD)) return BAD;
        int[] minutes = {a, b, c, d};
        for (int i = 0; i < fountains.size() && i < minutes.length; i++) {
            if (outside(minutes[i], 1, MOST_MINUTES)) return BAD;
        }
        if (fountains.isEmpty()) return NOT;
        int number = jars.size();
        if (number >= MOST_JARS) return FULL;
        jars.add(new Jar(number, floor, holds, minutes));
        return number;
    }

    public int drinks(int jar, int n) {
        Jar j = jarAt(jar);
        if (j == null || outside(n, 0, MOST_DRUNK)) return BAD;
        int was = j.thirst;
        j.thirst = n;
        return was;
    }

    public int man(int kind, int load, int fountain, int jar) {
        Fountain f = fountainAt(fountain);
        Jar j = jarAt(jar);
        if (outside(kind, MAN_KIND, DONKEY_KIND) || outside(load, 1, MOST_LOAD)) return BAD;
        if (f == null || j == null) return BAD;
        int number = men.size();
        Man m = newMan(kind, number, load, f, j);
        if (!m.canGoTo(j)) return NOT;
        if (number >= MOST_MEN) return FULL;
        men.add(m);
        m.joinRow();
        return number;
    }

    public int right(int man, int r) {
        Man m = manAt(man);
        if (m == null || outside(r, 0, MOST_RIGHT)) return BAD;
        int was = m.rank;
        m.rank = r;
        return was;
    }

    public int pace(int man, int p) {
        Man m = manAt(man);
        if (m == null || outside(p, 1, MOST_PACE)) return BAD;
        if (m instanceof Donkey d) {
            int was = d.speed;
            d.speed = p;
            return was;
        }
        return CAST;
    }

    public int moves(int man, int fountain, int jar) {
        Man m = manAt(man);
        Fountain f = fountainAt(fountain);
        Jar j = jarAt(jar);
        if (m == null || f == null || j == null) return BAD;
        if (m.doing != IN_ROW || !m.canGoTo(j)) return NOT;
        m.leaveRow();
        m.fountain = f;
        m.jar = j;
        m.joinRow();
        return 1;
    }

    public int open(int fountain, boolean is) {
        Fountain f = fountainAt(fountain);
        if (f == null) return BAD;
        int was = f.isOpen ? 1 : 0;
        f.isOpen = is;
        return was;
    }

    public int drought(int p) {
        if (outside(p, 0, 100)) return BAD;
        int was = hundredths;
        hundredths = p;
        return was;
    }

    public int type(long w, int n) {
        return prices.append(w, n);
    }

    public int fares() {
        return prices.takeTape();
    }

    public int fare(int floor) {
        return prices.priceOf(floor);
    }

    // ---- 2 minutes

    public int run(int n) {
        if (outside(n, 1, MOST_RUN)) return BAD;
        if (time + n > LAST_TIME) return FULL;
        for (int i = 0; i < n; i++) passMinute();
        return time;
    }

    public int told(int man, int what) {
        Man m = manAt(man);
        if (m == null) return BAD;
        switch (what) {
            case 0: return m.doing;
            case 1: return m.doing == IN_ROW ? m.fountain.countAhead(m) : m.toGo;
            case 2: return m.carries;
            case 3: return m.earned;
            case 4: return m.fountain.number;
            case 5: return m.jar.number;
            case 6: return m.wayUp(m.jar);
            case 7: return m.wayDown(m.jar);
            case 8: return m.kind();
            default: return BAD;
        }
    }

    public int water(int which, int what) {
        if (what == 0 || what == 2) {
            Fountain f = fountainAt(which);
            if (f == null) return BAD;
            return what == 0 ? f.has : f.ranOff;
        }
        if (what == 1 || what == 3) {
            Jar j = jarAt(which);
            if (j == null) return BAD;
            return what == 1 ? j.has : j.drunk;
        }
        return BAD;
    }

    public long sum(int what) {
        if (what == THE_TIME) return time;
        if (what < 0 || what >= sums.length) return BAD;
        return sums[what];
    }

    public int fire(int jar, int w) {
        Jar j = jarAt(jar);
        if (j == null || outside(w, 0, MOST_NEAR)) return BAD;
        int thrown = 0;
        for (int i = 0; i < men.size(); i++) {
            Man m = men.get(i);
            if (m.doing == GOES_UP && m.jar == j && m.toGo <= w) {
                thrown += m.carries;
                m.carries = 0;
                m.goDown();
            }
        }
        sums[THROWN] += thrown;
        return thrown;
    }

    // ---- 3 what was poured, what is given

    public int poured(int i, int what) {
        if (i < 0 || outside(what, 0, Pourings.FACTS - 1)) return BAD;
        if (i >= pourings.kept) return NONE;
        return pourings.fact(i, what);
    }

    public int foul(int fountain, int t) {
        if (fountainAt(fountain) == null || t < 0) return BAD;
        return pourings.jarsFouledBy(fountain, t);
    }

    public int give(int man, int jar, int n) {
        if (outside(n, 1, Giving.MOST)) return BAD;
        if (outside(man, 0, men.size() - n) || outside(jar, 0, jars.size() - n)) return BAD;
        for (int i = 0; i < n; i++) {
            for (int k = 0; k < n; k++) {
                giving.setToil(i, k, men.get(man + i).toilFor(jars.get(jar + k)));
            }
        }
        int toil = giving.findLeast(n);
        if (toil == Giving.NEVER) return NONE;
        giving.settle(man, jar, n);
        return toil;
    }

    public int given(int man) {
        if (manAt(man) == null) return BAD;
        return giving.jarOf(man);
    }

    public int count(int what) {
        switch (what) {
            case 0: return fountains.size();
            case 1: return jars.size();
            case 2: return men.size();
            case 3: return countDoing(IN_ROW);
            case 4: return countDoing(GOES_UP);
            case 5: return countDoing(GOES_DOWN);
            case 6: return pourings.kept;
            default: return BAD;
        }
    }

    // ---- who and what is there

    private static boolean outside(int number, int least, int most) {
        return number < least || number > most;
    }

    private static int cutUp(int number, int divisor) {
        return divisor < 1 ? number : (number + divisor - 1) / divisor;
    }

    private Fountain fountainAt(int number) {
        return number < 0 || number >= fountains.size() ? null : fountains.get(number);
    }

    private Jar jarAt(int number) {
        return number < 0 || number >= jars.size() ? null : jars.get(number);
    }

    private Man manAt(int number) {
        return number < 0 || number >= men.size() ? null : men.get(number);
    }

    private static Man newMan(int kind, int number, int load, Fountain f, Jar j) {
        if (kind == DONKEY_KIND) return new Donkey(number, load, f, j);
        if (kind == STRONG_KIND) return new Strong(number, load, f, j);
        return new Man(number, load, f, j);
    }

    private int countDoing(int doing) {
        int found = 0;
        for (int i = 0; i < men.size(); i++) {
            if (men.get(i).doing == doing) found++;
        }
        return found;
    }

    // ---- a minute

    private void passMinute() {
        for (int i = 0; i < fountains.size(); i++) letFlow(fountains.get(i));
        for (int i = 0; i < fountains.size(); i++) fillNext(fountains.get(i));
        for (int i = 0; i < men.size(); i++) walk(men.get(i));
        for (int i = 0; i < jars.size(); i++) sums[DRUNK] += jars.get(i).drinkOnce();
        time++;
    }

    private void letFlow(Fountain f) {
        if (!f.isOpen) return;
        int flowed = f.flow * hundredths / 100;
        int over = Math.max(0, f.has + flowed - MOST_FOUNTAIN_WATER);
        f.has += flowed - over;
        f.ranOff += over;
        sums[FLOWED] += flowed;
        sums[RAN_OFF] += over;
    }

    private void fillNext(Fountain f) {
        Man m = f.isOpen ? f.nextToFill() : null;
        if (m == null) return;
        int measures = Math.min(MOST_FILLED_A_MINUTE, Math.min(f.has, m.load - m.carries));
        f.has -= measures;
        m.carries += measures;
        sums[FILLED] += measures;
        if (measures > 0) {
            m.filledFrom = f.number;
            m.filledTime = time;
        }
        // One who came back full leaves too, though nothing was left for him to take.
        if (m.carries >= m.load) {
            m.leaveRow();
            m.goUp(time);
        }
    }

    private void walk(Man m) {
        // Who left a ROW in this very minute walks from the next one on.
        if (m.doing == IN_ROW || m.setOutTime == time) return;
        m.toGo--;
        if (m.toGo > 0) return;
        if (m.doing == GOES_UP) {
            pour(m);
            m.goDown();
        } else {
            m.joinRow();
        }
    }

    private void pour(Man m) {
        Jar j = m.jar;
        int measures = Math.min(m.carries, j.holds - j.has);
        if (measures <= 0) return;
        int earned = measures * prices.priceOf(j.floor);
        j.has += measures;
        m.carries -= measures;
        m.earned += earned;
        sums[POURED] += measures;
        sums[EARNED] += earned;
        pourings.keep(m, measures, time);
    }

    private static final class Fountain {
        final int number;
        final int flow;
        final ArrayList<Man> row = new ArrayList<>();
        boolean isOpen = true;
        int has = 0;
        int ranOff = 0;

        Fountain(int number, int flow) {
            this.number = number;
            this.flow = flow;
        }

        Man nextToFill() {
            Man next = null;
            for (int i = 0; i < row.size(); i++) {
                Man m = row.get(i);
                if (next == null || m.rank > next.rank) next = m;
            }
            return next;
        }

        int countAhead(Man of) {
            int ahead = 0;
            boolean cameBefore = true;
            for (int i = 0; i < row.size(); i++) {
                Man m = row.get(i);
                if (m == of) cameBefore = false;
                else if (m.rank > of.rank || cameBefore && m.rank == of.rank) ahead++;
            }
            return ahead;
        }
    }

    private static final class Jar {
        final int number;
        final int floor;
        final int holds;
        private final int[] minutes;
        int has = 0;
        int thirst = 0;
        int drunk = 0;

        Jar(int number, int floor, int holds, int[] minutes) {
            this.number = number;
            this.floor = floor;
            this.holds = holds;
            this.minutes = minutes;
        }

        int minutesFrom(Fountain f) {
            int i = f.number;
            return i < 0 || i >= minutes.length ? 0 : minutes[i];
        }

        int drinkOnce() {
            int measures = Math.min(thirst, has);
            has -= measures;
            drunk += measures;
            return measures;
        }
    }

    private static class Man {
        final int number;
        final int load;
        Fountain fountain;
        Jar jar;
        int rank = 0;
        int doing = IN_ROW;
        int toGo = 0;
        int carries = 0;
        int earned = 0;
        int setOutTime = -1;
        int filledFrom = -1;
        int filledTime = -1;

        Man(int number, int load, Fountain fountain, Jar jar) {
            this.number = number;
            this.load = load;
            this.fountain = fountain;
            this.jar = jar;
        }

        int kind() {
            return MAN_KIND;
        }

        boolean canGoTo(Jar j) {
            return j.floor <= TOP_FLOOR_OF_A_MAN;
        }

        int walkTime(int minutes) {
            return minutes;
        }

        int climbTime(int floor) {
            return floor;
        }

        final int wayUp(Jar j) {
            return wayDown(j) + climbTime(j.floor);
        }

        final int wayDown(Jar j) {
            return walkTime(j.minutesFrom(fountain));
        }

        final int toilFor(Jar j) {
            return canGoTo(j) ? wayUp(j) + wayDown(j) : Giving.NEVER;
        }

        final void joinRow() {
            doing = IN_ROW;
            fountain.row.add(this);
        }

        final void leaveRow() {
            ArrayList<Man> row = fountain.row;
            for (int i = 0; i < row.size(); i++) {
                if (row.get(i) == this) {
                    row.remove(i);
                    return;
                }
            }
        }

        final void goUp(int now) {
            doing = GOES_UP;
            toGo = wayUp(jar);
            setOutTime = now;
        }

        final void goDown() {
            doing = GOES_DOWN;
            toGo = wayDown(jar);
        }
    }

    private static class Strong extends Man {
        Strong(int number, int load, Fountain fountain, Jar jar) {
            super(number, load, fountain, jar);
        }

        int kind() {
            return STRONG_KIND;
        }

        boolean canGoTo(Jar j) {
            return true;
        }

        int climbTime(int floor) {
            return cutUp(floor, 2);
        }
    }

    private static final class Donkey extends Strong {
        int speed = FIRST_PACE;

        Donkey(int number, int load, Fountain fountain, Jar jar) {
            super(number, load, fountain, jar);
        }

        int kind() {
            return DONKEY_KIND;
        }

        int walkTime(int minutes) {
            return cutUp(minutes, speed);
        }

        int climbTime(int floor) {
            return 0;
        }
    }

    /** THE TAPE and the prices that were read from it. */
    private static final class Fares {
        private static final int MOST_BYTES = 50, MOST_CLAUSES = 5, MOST_PRICE = 99;
        private static final int FIRST_FAULT = -20, NO_NUMBER = -1;
        private static final int BLANK = 32, LAST_BYTE = 126;

        private final int[] tape = new int[MOST_BYTES];
        private int[] prices = new int[TOP_FLOOR + 1];
        private int[] draft = new int[TOP_FLOOR + 1];
        private int length = 0;
        // Where the reader stands; after a fault, the fault's place.
        private int place = 0;

        Fares() {
            Arrays.fill(prices, 1);
        }

        int priceOf(int floor) {
            return floor < 0 || floor >= prices.length ? BAD : prices[floor];
        }

        int append(long w, int n) {
            if (outside(n, 1, 8)) return BAD;
            for (int i = 0; i < n; i++) {
                if (outside(byteOf(w, i), BLANK, LAST_BYTE)) return BAD;
            }
            if (length + n > tape.length) return FULL;
            for (int i = n - 1; i >= 0; i--) {
                tape[length] = byteOf(w, i);
                length++;
            }
            return length;
        }

        private static int byteOf(long w, int i) {
            return (int) (w >>> 8 * i) & 255;
        }

        int takeTape() {
            int clauses = readClauses();
            int answer = clauses > 0 ? clauses : FIRST_FAULT - place;
            if (clauses > 0) useDraft();
            length = 0;
            return answer;
        }

        private void useDraft() {
            int[] old = prices;
            prices = draft;
            draft = old;
        }

        /** How many clauses there are; 0: a fault, at the reader's place. */
        private int readClauses() {
            place = 0;
            Arrays.fill(draft, 0);
            for (int clauses = 1; clauses <= MOST_CLAUSES; clauses++) {
                if (!readClause()) return 0;
                if (isAtEnd()) return clauses;
                if (clauses == MOST_CLAUSES || !readSign(';')) return 0;
            }
            return 0;
        }

        private boolean readClause() {
            int from = readNumber(0, TOP_FLOOR);
            if (from == NO_NUMBER) return false;
            int to = readSign('-') ? readNumber(from, TOP_FLOOR) : from;
            if (to == NO_NUMBER || !readSign(':')) return false;
            int price = readNumber(0, MOST_PRICE);
            if (price == NO_NUMBER) return false;
            for (int i = from; i <= to && i < draft.length; i++) draft[i] = price;
            return true;
        }

        private int readNumber(int least, int most) {
            skipBlanks();
            int start = place;
            int number = 0;
            while (place < length && !outside(tape[place], '0', '9')) {
                // Fifty digits would wrap round; beyond 100 it is too great in any case.
                number = Math.min(100, number * 10 + tape[place] - '0');
                place++;
            }
            if (place > start && !outside(number, least, most)) return number;
            place = start;
            return NO_NUMBER;
        }

        private boolean readSign(char sign) {
            skipBlanks();
            if (place >= length || tape[place] != sign) return false;
            place++;
            return true;
        }

        private boolean isAtEnd() {
            skipBlanks();
            return place >= length;
        }

        private void skipBlanks() {
            while (place < length && tape[place] == BLANK) place++;
        }
    }

    /** The latest pourings, in a ring. */
    private static final class Pourings {
        static final int FACTS = 6;
        private static final int MOST = 100;
        private static final int MAN = 0, JAR = 1, MEASURES = 2, TIME = 3, FOUNTAIN = 4, FILLED_AT = 5;

        private final int[] facts = new int[MOST * FACTS];
        private int next = 0;
        int kept = 0;

        void keep(Man m, int measures, int time) {
            int at = next * FACTS;
            facts[at + MAN] = m.number;
            facts[at + JAR] = m.jar.number;
            facts[at + MEASURES] = measures;
            facts[at + TIME] = time;
            facts[at + FOUNTAIN] = m.filledFrom;
            facts[at + FILLED_AT] = m.filledTime;
            next = (next + 1) % MOST;
            kept = Math.min(MOST, kept + 1);
        }

        int fact(int i, int what) {
            int at = Math.floorMod(next - 1 - i, MOST) * FACTS + what;
            return at < 0 || at >= facts.length ? NONE : facts[at];
        }

        int jarsFouledBy(int fountain, int since) {
            int bits = 0;
            for (int i = 0; i < kept; i++) {
                if (fact(i, FOUNTAIN) == fountain && fact(i, FILLED_AT) >= since) bits |= 1 << fact(i, JAR);
            }
            return bits;
        }
    }

    /** Who gets which jar, by the least toil. */
    private static final class Giving {
        static final int MOST = 6, NEVER = -1;

        private final int[] toils = new int[MOST * MOST];
        // By the bits of the jars that the first men have: the least toil of all men behind these.
        private final int[] least = new int[1 << MOST];
        private final int[] jarsOfMen = new int[MOST_MEN];

        Giving() {
            Arrays.fill(jarsOfMen, NONE);
        }

        int jarOf(int man) {
            return man < 0 || man >= jarsOfMen.length ? NONE : jarsOfMen[man];
        }

        void setToil(int man, int jar, int toil) {
            if (outside(man, 0, MOST - 1) || outside(jar, 0, MOST - 1)) return;
            toils[man * MOST + jar] = toil;
        }

        int findLeast(int n) {
            if (outside(n, 1, MOST)) return NEVER;
            int all = (1 << n) - 1;
            least[all] = 0;
            for (int taken = all - 1; taken >= 0; taken--) {
                least[taken] = NEVER;
                for (int jar = 0; jar < n; jar++) {
                    int toil = toilWith(taken, jar);
                    if (toil != NEVER && (least[taken] == NEVER || toil < least[taken])) least[taken] = toil;
                }
            }
            return least[0];
        }

        /** The least toil of the men behind those who have the taken jars, if the next of them gets this jar. */
        private int toilWith(int taken, int jar) {
            int then = taken | 1 << jar;
            int at = Integer.bitCount(taken) * MOST + jar;
            if (then == taken || then >= least.length || at >= toils.length) return NEVER;
            return toils[at] == NEVER || least[then] == NEVER ? NEVER : toils[at] + least[then];
        }

        void settle(int firstMan, int firstJar, int n) {
            Arrays.fill(jarsOfMen, NONE);
            int taken = 0;
            for (int i = 0; i < n && firstMan + i < jarsOfMen.length; i++) {
                int jar = firstBest(taken, n);
                jarsOfMen[firstMan + i] = firstJar + jar;
                taken |= 1 << jar;
            }
        }

        private int firstBest(int taken, int n) {
            for (int jar = 0; jar < n; jar++) {
                int toil = toilWith(taken, jar);
                if (toil != NEVER && toil == least[taken]) return jar;
            }
            return 0;
        }
    }
}
