import java.math.BigInteger;
import java.util.HashMap;
import java.util.Map;

/** The document's words taken one by one, as plainly as they stand, to hold KinNumbers against. */
final class PlainKin {
    private static final int NONE = -1;

    /** A fraction of whole numbers without a bound. */
    record Ratio(BigInteger above, BigInteger below) {
        static final Ratio ZERO = of(0, 1);
        static final Ratio ONE = of(1, 1);

        static Ratio of(long above, long below) {
            return new Ratio(BigInteger.valueOf(above), BigInteger.valueOf(below)).lowest();
        }

        Ratio plus(Ratio r) {
            return new Ratio(above.multiply(r.below).add(r.above.multiply(below)), below.multiply(r.below)).lowest();
        }

        Ratio minus(Ratio r) {
            return plus(new Ratio(r.above.negate(), r.below));
        }

        Ratio times(Ratio r) {
            return new Ratio(above.multiply(r.above), below.multiply(r.below)).lowest();
        }

        Ratio over(Ratio r) {
            return new Ratio(above.multiply(r.below), below.multiply(r.above)).lowest();
        }

        long part(int part) {
            return part == 0 ? above.longValueExact() : part == 1 ? below.longValueExact() : NONE;
        }

        private Ratio lowest() {
            BigInteger divisor = above.gcd(below);
            if (below.signum() < 0) {
                divisor = divisor.negate();
            }
            return new Ratio(above.divide(divisor), below.divide(divisor));
        }
    }

    final int count;
    private final int[] mother = new int[24];
    private final int[] father = new int[24];
    private final int[] sex = new int[24];
    private final int[] day = new int[24];
    private final boolean[] living = new boolean[24];
    private final int[][] form = new int[24][4];
    private String ring = "";

    PlainKin(int animals) {
        count = animals < 1 ? 1 : animals > 24 ? 24 : animals;
        for (int a = 0; a < 24; a++) {
            mother[a] = NONE;
            father[a] = NONE;
            day[a] = NONE;
            living[a] = true;
            java.util.Arrays.fill(form[a], NONE);
        }
    }

    private boolean is(int a) {
        return a >= 0 && a < count;
    }

    boolean parents(int child, int m, int f) {
        ring = "";
        if (!is(child) || !is(m) && m != NONE || !is(f) && f != NONE || m == f && m != NONE) {
            return false;
        }
        int motherBefore = mother[child];
        int fatherBefore = father[child];
        if (climbs(m, child) || climbs(f, child)) {
            StringBuilder rows = new StringBuilder().append(child);
            int at = climbs(m, child) ? m : f;
            while (at != child) {
                rows.append(' ').append(at);
                at = climbs(mother[at], child) ? mother[at] : father[at];
            }
            ring = rows.append(' ').append(child).toString();
            return false;
        }
        mother[child] = m;
        father[child] = f;
        if (right()) {
            return true;
        }
        mother[child] = motherBefore;
        father[child] = fatherBefore;
        return false;
    }

    private boolean climbs(int from, int to) {
        return from != NONE && (from == to || climbs(mother[from], to) || climbs(father[from], to));
    }

    private boolean right() {
        for (int c = 0; c < count; c++) {
            int m = mother[c];
            int f = father[c];
            if (m != NONE && (sex[m] == 2 || day[m] != NONE && day[c] != NONE && day[m] >= day[c])) {
                return false;
            }
            if (f != NONE && (sex[f] == 1 || day[f] != NONE && day[c] != NONE && day[f] >= day[c])) {
                return false;
            }
        }
        return true;
    }

    int ring(int k) {
        String[] rows = ring.split(" ");
        return ring.isEmpty() || k < 0 || k >= rows.length ? NONE : Integer.parseInt(rows[k]);
    }

    boolean told(int a, int s, int born) {
        if (!is(a) || s < 0 || s > 2 || born < NONE || born > 99999) {
            return false;
        }
        int sexBefore = sex[a];
        int dayBefore = day[a];
        sex[a] = s;
        day[a] = born;
        boolean taken = right();
        if (!taken) {
            sex[a] = sexBefore;
            day[a] = dayBefore;
        }
        return taken;
    }

    boolean lives(int a, boolean on) {
        if (is(a)) {
            living[a] = on;
        }
        return is(a);
    }

    long kin(int a, int b, int part) {
        return is(a) && is(b) ? f(a, b, new HashMap<>()).part(part) : NONE;
    }

    /** By the document's own rule for x, and remembered, as a deep pedigree asks the same often. */
    private Ratio f(int a, int b, Map<Integer, Ratio> known) {
        if (a == NONE || b == NONE) {
            return Ratio.ZERO;
        }
        Ratio before = known.get(a * 24 + b);
        if (before != null) {
            return before;
        }
        Ratio half = Ratio.of(1, 2);
        Ratio answer;
        if (a == b) {
            answer = Ratio.ONE.plus(f(mother[a], father[a], known)).times(half);
        } else {
            int x = isForbear(a, b) ? b : isForbear(b, a) ? a : Math.max(a, b);
            int other = x == a ? b : a;
            answer = f(mother[x], other, known).plus(f(father[x], other, known)).times(half);
        }
        known.put(a * 24 + b, answer);
        return answer;
    }

    private Ratio inbreeding(int a) {
        return f(mother[a], father[a], new HashMap<>());
    }

    long inbred(int a, int part) {
        return is(a) ? inbreeding(a).part(part) : NONE;
    }

    long chance(int a, int part) {
        if (!is(a)) {
            return NONE;
        }
        Ratio fourth = Ratio.of(1, 4);
        if (mother[a] == NONE && father[a] == NONE) {
            return Ratio.ONE.part(part);
        }
        if (mother[a] == NONE || father[a] == NONE) {
            int known = mother[a] == NONE ? father[a] : mother[a];
            return Ratio.of(3, 4).minus(inbreeding(known).times(fourth)).part(part);
        }
        Ratio together = inbreeding(mother[a]).plus(inbreeding(father[a]));
        return Ratio.of(1, 2).minus(together.times(fourth)).part(part);
    }

    private boolean founds(int a) {
        return mother[a] == NONE && father[a] == NONE;
    }

    long share(int a, int founder, int part) {
        return is(a) && is(founder) && founds(founder) ? in(a, founder, new HashMap<>()).part(part) : NONE;
    }

    private Ratio in(int a, int founder, Map<Integer, Ratio> known) {
        if (a == NONE) {
            return Ratio.ZERO;
        }
        if (founds(a)) {
            return a == founder ? Ratio.ONE : Ratio.ZERO;
        }
        Ratio before = known.get(a);
        if (before == null) {
            before = in(mother[a], founder, known).plus(in(father[a], founder, known)).times(Ratio.of(1, 2));
            known.put(a, before);
        }
        return before;
    }

    boolean isForbear(int a, int of) {
        return is(a) && is(of) && (forbears(of, 0) >> a & 1) == 1;
    }

    private int forbears(int of, int seen) {
        int all = seen;
        for (int parent : new int[] {mother[of], father[of]}) {
            if (parent != NONE && (all >> parent & 1) == 0) {
                all = forbears(parent, all | 1 << parent);
            }
        }
        return all;
    }

    private int steps(int a) {
        int most = 0;
        for (int b = 0; b < count; b++) {
            if (b == mother[a] || b == father[a]) {
                most = Math.max(most, steps(b) + 1);
            }
        }
        return most;
    }

    int order(int k) {
        java.util.List<int[]> rows = new java.util.ArrayList<>();
        for (int a = 0; a < count; a++) {
            rows.add(new int[] {a, steps(a)});
        }
        rows.sort((p, q) -> p[1] - q[1]);
        return is(k) ? rows.get(k)[0] : NONE;
    }

    boolean mark(int a, int mark, int f) {
        if (!is(a) || mark < 0 || mark > 3 || f < NONE || f > 2) {
            return false;
        }
        form[a][mark] = f;
        return true;
    }

    private boolean leftOut(int a, int b) {
        for (int m = 0; m < 4; m++) {
            if (form[a][m] == 0 && form[b][m] == 2 || form[a][m] == 2 && form[b][m] == 0) {
                return true;
            }
        }
        return false;
    }

    int left(int child, int s) {
        if (!is(child) || s != 1 && s != 2) {
            return NONE;
        }
        int many = 0;
        for (int a = 0; a < count; a++) {
            if (a != child && (s == 1 ? sex[a] != 2 : sex[a] != 1) && !leftOut(child, a)) {
                many++;
            }
        }
        return many;
    }

    long odds(int child, int parent, int part) {
        if (!is(child) || !is(parent) || child == parent) {
            return NONE;
        }
        if (leftOut(child, parent)) {
            return Ratio.ZERO.part(part);
        }
        Ratio product = Ratio.ONE;
        for (int m = 0; m < 4; m++) {
            if (form[child][m] != NONE && form[parent][m] != NONE) {
                product = product.times(oddsBy(m, form[child][m], Ratio.of(form[parent][m], 2)));
            }
        }
        return product.part(part);
    }

    private Ratio oddsBy(int m, int childForm, Ratio t) {
        long p = 0;
        long n = 0;
        for (int a = 0; a < count; a++) {
            if (form[a][m] != NONE) {
                p += form[a][m];
                n++;
            }
        }
        Ratio x = Ratio.of(p, 2 * n);
        Ratio notX = Ratio.ONE.minus(x);
        Ratio notT = Ratio.ONE.minus(t);
        if (childForm == 0) {
            return notT.times(notX).over(notX.times(notX));
        }
        if (childForm == 1) {
            return t.times(notX).plus(notT.times(x)).over(Ratio.of(2, 1).times(x).times(notX));
        }
        return t.times(x).over(x.times(x));
    }

    long like(int a, int b, int part) {
        long alike = 0;
        long known = 0;
        for (int m = 0; is(a) && is(b) && m < 4; m++) {
            if (form[a][m] != NONE && form[b][m] != NONE) {
                alike += 2 - Math.abs(form[a][m] - form[b][m]);
                known++;
            }
        }
        return known == 0 ? NONE : Ratio.of(alike, 2 * known).part(part);
    }

    int lost(int k) {
        int row = 0;
        for (int a = 0; a < count; a++) {
            boolean gone = founds(a) && !living[a];
            for (int b = 0; b < count; b++) {
                gone = gone && !(living[b] && isForbear(a, b));
            }
            if (gone && row++ == k) {
                return a;
            }
        }
        return NONE;
    }

    long diverse(int part) {
        Ratio sum = Ratio.ZERO;
        long pairs = 0;
        Map<Integer, Ratio> known = new HashMap<>();
        for (int a = 0; a < count; a++) {
            for (int b = 0; b < count; b++) {
                if (living[a] && living[b]) {
                    sum = sum.plus(f(a, b, known));
                    pairs++;
                }
            }
        }
        return pairs == 0 ? NONE : sum.over(Ratio.of(pairs, 1)).part(part);
    }

    int animal(int a, int what) {
        if (!is(a) || what < 0 || what > 5) {
            return NONE;
        }
        return new int[] {mother[a], father[a], sex[a], day[a], living[a] ? 1 : 0, steps(a)}[what];
    }
}
