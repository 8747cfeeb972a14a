import java.util.ArrayList;
import java.util.List;

/** The document once more, as plainly as can be and on another plan than WaterMen: for ModelTest alone. */
final class Model {
    private static final int BAD = -1, NOT = -2, FULL = -3, NONE = -4, CAST = -13;

    private static final class M {
        int kind, load, fountain, jar, right, pace = 2, does, left, has, earned, from, when;
        boolean walksNow;
        long came;
    }

    private final List<int[]> fountains = new ArrayList<>(); // flow, water, open, ran off
    private final List<int[]> jars = new ArrayList<>(); // floor, holds, a, b, c, d, water, drinks, drunk
    private final List<M> men = new ArrayList<>();
    private final List<int[]> pourings = new ArrayList<>(); // the latest last
    private int[] given = {};
    private int givenFrom = 0;
    private int[] price = {1, 1, 1, 1, 1, 1, 1, 1, 1, 1};
    private String tape = "";
    private int drought = 100;
    private long coming = 0;
    private final long[] sums = new long[8];

    private static boolean in(long x, long from, long to) {
        return from <= x && x <= to;
    }

    private boolean noFountain(int f) {
        return !in(f, 0, fountains.size() - 1);
    }

    private boolean noJar(int j) {
        return !in(j, 0, jars.size() - 1);
    }

    private boolean noMan(int m) {
        return !in(m, 0, men.size() - 1);
    }

    private int up(M m, int jar) {
        int floor = jars.get(jar)[0];
        return down(m, jar) + (m.kind == 0 ? floor : m.kind == 1 ? floor / 2 + floor % 2 : 0);
    }

    private int down(M m, int jar) {
        int minutes = jars.get(jar)[2 + m.fountain];
        return m.kind == 2 ? (int) Math.ceil(minutes / (double) m.pace) : minutes;
    }

    private boolean cannot(int kind, int jar) {
        return kind == 0 && jars.get(jar)[0] > 4;
    }

    int fountain(int flow) {
        if (!in(flow, 1, 20)) return BAD;
        if (jars.size() > 0) return NOT;
        if (fountains.size() == 4) return FULL;
        fountains.add(new int[] {flow, 0, 1, 0});
        return fountains.size() - 1;
    }

    int jar(int floor, int holds, int a, int b, int c, int d) {
        int[] jar = {floor, holds, a, b, c, d, 0, 0, 0};
        boolean good = in(floor, 0, 9) && in(holds, 1, 200);
        for (int f = 0; f < fountains.size(); f++) good &= in(jar[2 + f], 1, 30);
        if (!good) return BAD;
        if (fountains.size() == 0) return NOT;
        if (jars.size() == 8) return FULL;
        jars.add(jar);
        return jars.size() - 1;
    }

    int drinks(int jar, int n) {
        if (noJar(jar) || !in(n, 0, 9)) return BAD;
        int was = jars.get(jar)[7];
        jars.get(jar)[7] = n;
        return was;
    }

    int man(int kind, int load, int fountain, int jar) {
        if (!in(kind, 0, 2) || !in(load, 1, 40) || noFountain(fountain) || noJar(jar)) return BAD;
        if (cannot(kind, jar)) return NOT;
        if (men.size() == 10) return FULL;
        M m = new M();
        m.kind = kind;
        m.load = load;
        m.fountain = fountain;
        m.jar = jar;
        m.came = coming++;
        men.add(m);
        return men.size() - 1;
    }

    int right(int man, int r) {
        if (noMan(man) || !in(r, 0, 3)) return BAD;
        int was = men.get(man).right;
        men.get(man).right = r;
        return was;
    }

    int pace(int man, int p) {
        if (noMan(man) || !in(p, 1, 5)) return BAD;
        M m = men.get(man);
        if (m.kind != 2) return CAST;
        int was = m.pace;
        m.pace = p;
        return was;
    }

    int moves(int man, int fountain, int jar) {
        if (noMan(man) || noFountain(fountain) || noJar(jar)) return BAD;
        M m = men.get(man);
        if (m.does != 0 || cannot(m.kind, jar)) return NOT;
        m.fountain = fountain;
        m.jar = jar;
        m.came = coming++;
        return 1;
    }

    int open(int fountain, boolean is) {
        if (noFountain(fountain)) return BAD;
        int was = fountains.get(fountain)[2];
        fountains.get(fountain)[2] = is ? 1 : 0;
        return was;
    }

    int drought(int p) {
        if (!in(p, 0, 100)) return BAD;
        int was = drought;
        drought = p;
        return was;
    }

    int type(long w, int n) {
        if (!in(n, 1, 8)) return BAD;
        String piece = "";
        for (int i = 0; i < n; i++) {
            char c = (char) (w & 255);
            if (!in(c, 32, 126)) return BAD;
            piece = c + piece;
            w >>= 8;
        }
        if (tape.length() + n > 50) return FULL;
        tape += piece;
        return tape.length();
    }

    /** States: 0 a first FLOOR is due, 1 - or :, 2 a second FLOOR, 3 :, 4 a price, 5 ; or the end. */
    int fares() {
        String text = tape;
        tape = "";
        int[] told = new int[10];
        int state = 0, from = 0, to = 0, clauses = 0, at = 0;
        while (at < text.length()) {
            char c = text.charAt(at);
            int start = at++;
            if (c == ' ') continue;
            if (Character.isDigit(c)) {
                while (at < text.length() && Character.isDigit(text.charAt(at))) at++;
                String digits = text.substring(start, at).replaceFirst("^0+(?=.)", "");
                int number = digits.length() > 3 ? 999 : Integer.parseInt(digits);
                if (state == 0 && number <= 9) {
                    from = to = number;
                    state = 1;
                } else if (state == 2 && in(number, from, 9)) {
                    to = number;
                    state = 3;
                } else if (state == 4 && number <= 99) {
                    for (int f = from; f <= to; f++) told[f] = number;
                    clauses++;
                    state = 5;
                } else return -20 - start;
            } else if (c == '-' && state == 1) state = 2;
            else if (c == ':' && (state == 1 || state == 3)) state = 4;
            else if (c == ';' && state == 5 && clauses < 5) state = 0;
            else return -20 - start;
        }
        if (state != 5) return -20 - text.length();
        price = told;
        return clauses;
    }

    int fare(int floor) {
        return in(floor, 0, 9) ? price[floor] : BAD;
    }

    int run(int n) {
        if (!in(n, 1, 500)) return BAD;
        if (sums[7] + n > 20000) return FULL;
        while (n-- > 0) minute();
        return (int) sums[7];
    }

    private void minute() {
        for (M m : men) m.walksNow = m.does != 0;
        for (int[] f : fountains) {
            if (f[2] == 0) continue;
            for (int drop = f[0] * drought / 100; drop > 0; drop--) {
                sums[0]++;
                if (f[1] < 300) f[1]++;
                else {
                    f[3]++;
                    sums[1]++;
                }
            }
        }
        for (int f = 0; f < fountains.size(); f++) fill(f);
        for (int i = 0; i < men.size(); i++) {
            M m = men.get(i);
            if (!m.walksNow || --m.left > 0) continue;
            if (m.does == 1) {
                pour(i);
                m.does = 2;
                m.left = down(m, m.jar);
            } else {
                m.does = 0;
                m.came = coming++;
            }
        }
        for (int[] j : jars) {
            int drunk = Math.min(j[6], j[7]);
            j[6] -= drunk;
            j[8] += drunk;
            sums[4] += drunk;
        }
        sums[7]++;
    }

    private boolean isAhead(M a, M b) {
        return a.right > b.right || a.right == b.right && a.came < b.came;
    }

    private void fill(int f) {
        int[] fountain = fountains.get(f);
        M best = null;
        for (M m : men) {
            if (m.does == 0 && m.fountain == f && (best == null || isAhead(m, best))) best = m;
        }
        if (best == null || fountain[2] == 0) return;
        for (int drop = 0; drop < 10 && fountain[1] > 0 && best.has < best.load; drop++) {
            fountain[1]--;
            best.has++;
            sums[2]++;
            best.from = f;
            best.when = (int) sums[7];
        }
        if (best.has == best.load) {
            best.does = 1;
            best.left = up(best, best.jar);
        }
    }

    private void pour(int man) {
        M m = men.get(man);
        int[] j = jars.get(m.jar);
        int poured = 0;
        while (m.has > 0 && j[6] < j[1]) {
            m.has--;
            j[6]++;
            poured++;
            m.earned += price[j[0]];
            sums[6] += price[j[0]];
        }
        sums[3] += poured;
        if (poured == 0) return;
        pourings.add(new int[] {man, m.jar, poured, (int) sums[7], m.from, m.when});
        if (pourings.size() > 100) pourings.remove(0);
    }

    int told(int man, int what) {
        if (noMan(man) || !in(what, 0, 8)) return BAD;
        M m = men.get(man);
        int ahead = 0;
        for (M other : men) {
            if (other.does == 0 && other.fountain == m.fountain && isAhead(other, m)) ahead++;
        }
        return new int[] {m.does, m.does == 0 ? ahead : m.left, m.has, m.earned, m.fountain, m.jar,
            up(m, m.jar), down(m, m.jar), m.kind}[what];
    }

    int water(int which, int what) {
        if (!in(what, 0, 3) || (what % 2 == 0 ? noFountain(which) : noJar(which))) return BAD;
        return what % 2 == 0 ? fountains.get(which)[what == 0 ? 1 : 3] : jars.get(which)[what == 1 ? 6 : 8];
    }

    long sum(int what) {
        return in(what, 0, 7) ? sums[what] : BAD;
    }

    int fire(int jar, int w) {
        if (noJar(jar) || !in(w, 0, 60)) return BAD;
        int thrown = 0;
        for (M m : men) {
            if (m.does != 1 || m.jar != jar || m.left > w) continue;
            thrown += m.has;
            m.has = 0;
            m.does = 2;
            m.left = down(m, jar);
        }
        sums[5] += thrown;
        return thrown;
    }

    int poured(int i, int what) {
        if (i < 0 || !in(what, 0, 5)) return BAD;
        return i >= pourings.size() ? NONE : pourings.get(pourings.size() - 1 - i)[what];
    }

    int foul(int fountain, int t) {
        if (noFountain(fountain) || t < 0) return BAD;
        int bits = 0;
        for (int[] p : pourings) {
            if (p[4] == fountain && p[5] >= t) bits |= 1 << p[1];
        }
        return bits;
    }

    int give(int man, int jar, int n) {
        if (!in(n, 1, 6) || !in(man, 0, 9) || !in(jar, 0, 7) || noMan(man + n - 1) || noJar(jar + n - 1)) return BAD;
        int[] best = null, order = new int[n];
        int least = Integer.MAX_VALUE;
        // All numbers of n digits to the base n, in order: those with each digit once are the ways to give.
        for (long number = 0, end = Math.round(Math.pow(n, n)); number < end; number++) {
            long rest = number;
            int seen = 0;
            for (int i = n - 1; i >= 0; i--) {
                order[i] = (int) (rest % n);
                seen |= 1 << order[i];
                rest /= n;
            }
            if (seen != (1 << n) - 1) continue;
            int toil = toil(man, jar, order);
            if (toil < least) {
                least = toil;
                best = order.clone();
            }
        }
        if (best == null) return NONE;
        givenFrom = man;
        given = best;
        for (int i = 0; i < n; i++) given[i] += jar;
        return least;
    }

    private int toil(int man, int jar, int[] order) {
        int toil = 0;
        for (int i = 0; i < order.length; i++) {
            M m = men.get(man + i);
            if (cannot(m.kind, jar + order[i])) return Integer.MAX_VALUE;
            toil += up(m, jar + order[i]) + down(m, jar + order[i]);
        }
        return toil;
    }

    int given(int man) {
        if (noMan(man)) return BAD;
        return in(man - givenFrom, 0, given.length - 1) ? given[man - givenFrom] : NONE;
    }

    int count(int what) {
        if (!in(what, 0, 6)) return BAD;
        int[] counts = {fountains.size(), jars.size(), men.size(), 0, 0, 0, pourings.size()};
        for (M m : men) counts[3 + m.does]++;
        return counts[what];
    }
}
