import java.util.Arrays;

/**
 * Pedigrees of up to 24 animals: kin, inbreeding and founders' shares as exact fractions, marks by
 * which parents are left out or weighed, and what is lost and alike among those that live.
 */
public final class KinNumbers {
    public static final int NONE = -1;

    private static final int MOST_ANIMALS = 24;
    private static final int FEMALE = 1;
    private static final int MALE = 2;
    private static final int LAST_DAY = 99999;

    private final Pedigree pedigree;
    private final Marks marks;
    private final int count;
    private final int[] sexes = new int[MOST_ANIMALS];
    private final int[] days = new int[MOST_ANIMALS];
    private final boolean[] dead = new boolean[MOST_ANIMALS];

    public KinNumbers(int animals) {
        count = Math.max(1, Math.min(animals, MOST_ANIMALS));
        pedigree = new Pedigree(count);
        marks = new Marks(count);
        Arrays.fill(days, NONE);
    }

    public boolean parents(int child, int mother, int father) {
        pedigree.forgetRing();
        if (!isAnimal(child) || !isAnimalOrNone(mother) || !isAnimalOrNone(father)) {
            return false;
        }
        if (mother == father && mother != NONE) {
            return false;
        }
        // A ring is told even where sexes and days would refuse too, so it is looked for first.
        if (pedigree.wouldClose(child, mother, father)) {
            pedigree.keepRing(child, mother, father);
            return false;
        }
        if (!mayBeParents(child, mother, father)) {
            return false;
        }
        pedigree.setParents(child, mother, father);
        return true;
    }

    public int ring(int k) {
        return pedigree.ringAt(k);
    }

    public boolean told(int animal, int sex, int born) {
        if (!isAnimal(animal) || sex < 0 || sex > MALE || born < NONE || born > LAST_DAY) {
            return false;
        }
        int sexBefore = sexes[animal];
        int dayBefore = days[animal];
        sexes[animal] = sex;
        days[animal] = born;
        if (areSexesAndDaysRight()) {
            return true;
        }
        sexes[animal] = sexBefore;
        days[animal] = dayBefore;
        return false;
    }

    public boolean lives(int animal, boolean on) {
        if (!isAnimal(animal)) {
            return false;
        }
        dead[animal] = !on;
        return true;
    }

    public long kin(int a, int b, int part) {
        if (!isAnimal(a) || !isAnimal(b) || !Fraction.isPart(part)) {
            return NONE;
        }
        return Fraction.lowest(pedigree.kinOf(a, b), Fraction.WHOLE, part);
    }

    public long inbred(int animal, int part) {
        if (!isAnimal(animal) || !Fraction.isPart(part)) {
            return NONE;
        }
        return Fraction.lowest(pedigree.inbreedingOf(animal), Fraction.WHOLE, part);
    }

    public long chance(int animal, int part) {
        if (!isAnimal(animal) || !Fraction.isPart(part)) {
            return NONE;
        }
        return Fraction.lowest(pedigree.chanceOf(animal), Fraction.WHOLE, part);
    }

    public long share(int animal, int founder, int part) {
        if (!isAnimal(animal) || !pedigree.isFounder(founder) || !Fraction.isPart(part)) {
            return NONE;
        }
        return Fraction.lowest(pedigree.shareOf(animal, founder), Fraction.WHOLE, part);
    }

    public boolean isForbear(int a, int of) {
        return pedigree.hasForbear(of, a);
    }

    public int order(int k) {
        return pedigree.inOrder(k);
    }

    public boolean mark(int animal, int mark, int form) {
        return marks.setForm(animal, mark, form);
    }

    public int left(int child, int sex) {
        if (!isAnimal(child) || (sex != FEMALE && sex != MALE)) {
            return NONE;
        }
        int wrongSex = sex == FEMALE ? MALE : FEMALE;
        int candidates = 0;
        for (int other = 0; other < count; other++) {
            if (other != child && sexes[other] != wrongSex && !marks.isLeftOut(child, other)) {
                candidates++;
            }
        }
        return candidates;
    }

    public long odds(int child, int parent, int part) {
        if (!isAnimal(child) || !isAnimal(parent) || child == parent || !Fraction.isPart(part)) {
            return NONE;
        }
        return marks.oddsOf(child, parent, part);
    }

    public long like(int a, int b, int part) {
        if (!isAnimal(a) || !isAnimal(b) || !Fraction.isPart(part)) {
            return NONE;
        }
        return marks.likenessOf(a, b, part);
    }

    public int lost(int k) {
        int row = 0;
        for (int founder = 0; founder < count; founder++) {
            if (isLost(founder)) {
                if (row == k) {
                    return founder;
                }
                row++;
            }
        }
        return NONE;
    }

    public long diverse(int part) {
        if (!Fraction.isPart(part)) {
            return NONE;
        }
        long living = 0;
        long sum = 0;
        for (int a = 0; a < count; a++) {
            if (!dead[a]) {
                living++;
                sum += kinWithLiving(a);
            }
        }
        return living == 0 ? NONE : Fraction.lowest(sum, living * living * Fraction.WHOLE, part);
    }

    public int animal(int animal, int what) {
        if (!isAnimal(animal)) {
            return NONE;
        }
        switch (what) {
            case 0:
                return pedigree.motherOf(animal);
            case 1:
                return pedigree.fatherOf(animal);
            case 2:
                // An unknown sex has a number of its own, 0, and is told by it rather than by NONE.
                return sexes[animal];
            case 3:
                return days[animal];
            case 4:
                return dead[animal] ? 0 : 1;
            case 5:
                return pedigree.stepsOf(animal);
            default:
                return NONE;
        }
    }

    private boolean isAnimal(int animal) {
        return animal >= 0 && animal < count;
    }

    private boolean isAnimalOrNone(int animal) {
        return animal == NONE || isAnimal(animal);
    }

    private boolean mayBeParents(int child, int mother, int father) {
        return mayBeParent(child, mother, MALE) && mayBeParent(child, father, FEMALE);
    }

    private boolean mayBeParent(int child, int parent, int wrongSex) {
        if (!isAnimal(child) || !isAnimal(parent)) {
            return true;
        }
        if (sexes[parent] == wrongSex) {
            return false;
        }
        return days[parent] == NONE || days[child] == NONE || days[parent] < days[child];
    }

    private boolean areSexesAndDaysRight() {
        for (int child = 0; child < count; child++) {
            if (!mayBeParents(child, pedigree.motherOf(child), pedigree.fatherOf(child))) {
                return false;
            }
        }
        return true;
    }

    private boolean isLost(int founder) {
        if (!isAnimal(founder) || !pedigree.isFounder(founder) || !dead[founder]) {
            return false;
        }
        for (int animal = 0; animal < count; animal++) {
            if (!dead[animal] && pedigree.hasForbear(animal, founder)) {
                return false;
            }
        }
        return true;
    }

    private long kinWithLiving(int a) {
        long sum = 0;
        for (int b = 0; b < count; b++) {
            if (!dead[b]) {
                sum += pedigree.kinOf(a, b);
            }
        }
        return sum;
    }

    /** Fractions are kept as two longs and told in lowest terms. */
    private static final class Fraction {
        /**
         * Numbers of the pedigree are kept as so many parts of this whole. It is a power of two that
         * no halving brings to an odd number: along ORDER each of the 24 animals halves once at
         * the most, and CHANCE takes a fourth of that.
         */
        static final long WHOLE = 1L << 30;

        private static final int ABOVE = 0;
        private static final int BELOW = 1;
        /** Euclid's steps for two longs are fewer than this. */
        private static final int MOST_DIVISIONS = 100;

        static boolean isPart(int part) {
            return part == ABOVE || part == BELOW;
        }

        static long lowest(long above, long below, int part) {
            long divisor = commonDivisor(above, below);
            if (divisor < 1) {
                return NONE;
            }
            return (part == ABOVE ? above : below) / divisor;
        }

        private static long commonDivisor(long above, long below) {
            long a = above;
            long b = below;
            for (int i = 0; i < MOST_DIVISIONS && b != 0; i++) {
                long rest = a % b;
                a = b;
                b = rest;
            }
            return a;
        }
    }

    /** Who descends from whom, and the numbers that follow; they are reckoned anew with new parents. */
    private static final class Pedigree {
        private final int count;
        private final int[] mothers = new int[MOST_ANIMALS];
        private final int[] fathers = new int[MOST_ANIMALS];
        private final int[] steps = new int[MOST_ANIMALS];
        private final int[] sequence = new int[MOST_ANIMALS];
        /** Of each animal a set of bits, one for each of its forbears. */
        private final int[] forbears = new int[MOST_ANIMALS];
        private final long[] kinTable = new long[MOST_ANIMALS * MOST_ANIMALS];
        private final long[] shares = new long[MOST_ANIMALS];
        /** All animals can stand in a ring, and the child stands there twice. */
        private final int[] ringRows = new int[MOST_ANIMALS + 1];
        private int ringLength = 0;

        /** So many animals as KinNumbers has: MOST_ANIMALS at the most. */
        Pedigree(int animals) {
            count = animals;
            Arrays.fill(mothers, NONE);
            Arrays.fill(fathers, NONE);
            reckon();
        }

        int motherOf(int animal) {
            return has(animal) ? mothers[animal] : NONE;
        }

        int fatherOf(int animal) {
            return has(animal) ? fathers[animal] : NONE;
        }

        int stepsOf(int animal) {
            return has(animal) ? steps[animal] : NONE;
        }

        int inOrder(int k) {
            return has(k) ? sequence[k] : NONE;
        }

        boolean isFounder(int animal) {
            return has(animal) && mothers[animal] == NONE && fathers[animal] == NONE;
        }

        boolean hasForbear(int animal, int forbear) {
            return has(animal) && has(forbear) && (forbears[animal] & bitOf(forbear)) != 0;
        }

        /** Unknown ones (NONE) are kin to none. */
        long kinOf(int a, int b) {
            return has(a) && has(b) ? kinTable[a * MOST_ANIMALS + b] : 0;
        }

        long inbreedingOf(int animal) {
            return kinOf(motherOf(animal), fatherOf(animal));
        }

        /** Each known parent leaves a fourth less to chance, and a fourth of its inbreeding too. */
        long chanceOf(int animal) {
            return Fraction.WHOLE - settledBy(motherOf(animal)) - settledBy(fatherOf(animal));
        }

        long shareOf(int animal, int founder) {
            for (int k = 0; k < count; k++) {
                int heir = inOrder(k);
                if (has(heir)) {
                    shares[heir] = heir == founder
                        ? Fraction.WHOLE
                        : (shareRow(motherOf(heir)) + shareRow(fatherOf(heir))) / 2;
                }
            }
            return shareRow(animal);
        }

        boolean wouldClose(int child, int mother, int father) {
            return leadsTo(mother, child) || leadsTo(father, child);
        }

        /** Goes from parent to parent until the child is met again; only for what would close. */
        void keepRing(int child, int mother, int father) {
            ringRows[0] = child;
            ringLength = 1;
            int next = leadsTo(mother, child) ? mother : father;
            for (int row = 1; row < ringRows.length && has(next); row++) {
                ringRows[row] = next;
                ringLength = row + 1;
                if (next == child) {
                    return;
                }
                next = leadsTo(mothers[next], child) ? mothers[next] : fathers[next];
            }
        }

        void forgetRing() {
            ringLength = 0;
        }

        int ringAt(int row) {
            return row >= 0 && row < ringLength && row < ringRows.length ? ringRows[row] : NONE;
        }

        void setParents(int child, int mother, int father) {
            if (!has(child)) {
                return;
            }
            mothers[child] = mother;
            fathers[child] = father;
            reckon();
        }

        private boolean has(int animal) {
            return animal >= 0 && animal < count;
        }

        private static int bitOf(int animal) {
            return 1 << animal;
        }

        private boolean leadsTo(int animal, int forbear) {
            return animal == forbear || hasForbear(animal, forbear);
        }

        private long settledBy(int parent) {
            return has(parent) ? (Fraction.WHOLE + inbreedingOf(parent)) / 4 : 0;
        }

        private long shareRow(int animal) {
            return has(animal) ? shares[animal] : 0;
        }

        /** Parents come before their children in ORDER, so what is taken from them stands already. */
        private void reckon() {
            reckonSteps();
            reckonOrder();
            for (int k = 0; k < count; k++) {
                reckonForbears(inOrder(k));
                reckonKin(k);
            }
        }

        /**
         * The longest line has fewer steps than there are animals, so that many rounds settle all. An
         * unknown parent stands at NONE, a step below 0, which leaves founders at 0.
         */
        private void reckonSteps() {
            Arrays.fill(steps, 0);
            boolean changed = true;
            for (int round = 0; round < count && changed; round++) {
                changed = false;
                for (int animal = 0; animal < count; animal++) {
                    int above = Math.max(stepsOf(mothers[animal]), stepsOf(fathers[animal])) + 1;
                    changed = changed || above != steps[animal];
                    steps[animal] = above;
                }
            }
        }

        private void reckonOrder() {
            int k = 0;
            for (int step = 0; step < count; step++) {
                for (int animal = 0; animal < count; animal++) {
                    if (steps[animal] == step && k < count) {
                        sequence[k] = animal;
                        k++;
                    }
                }
            }
        }

        private void reckonForbears(int animal) {
            if (has(animal)) {
                forbears[animal] = lineOf(mothers[animal]) | lineOf(fathers[animal]);
            }
        }

        private int lineOf(int parent) {
            return has(parent) ? bitOf(parent) | forbears[parent] : 0;
        }

        /**
         * Of two animals the later one in ORDER is never a forbear of the other. Where neither is a
         * forbear, f is the same whichever of them is traced to its parents.
         */
        private void reckonKin(int k) {
            int later = inOrder(k);
            int mother = motherOf(later);
            int father = fatherOf(later);
            for (int i = 0; i < k; i++) {
                int other = inOrder(i);
                setKin(later, other, (kinOf(mother, other) + kinOf(father, other)) / 2);
            }
            setKin(later, later, (Fraction.WHOLE + kinOf(mother, father)) / 2);
        }

        private void setKin(int a, int b, long parts) {
            if (has(a) && has(b)) {
                kinTable[a * MOST_ANIMALS + b] = parts;
                kinTable[b * MOST_ANIMALS + a] = parts;
            }
        }
    }

    /** The forms of the four marks, and what they tell of parents and of likeness. */
    private static final class Marks {
        private static final int MARKS = 4;
        private static final int MOST_FORM = 2;

        private final int count;
        private final int[] forms = new int[MOST_ANIMALS * MARKS];

        /** So many animals as KinNumbers has: MOST_ANIMALS at the most. */
        Marks(int animals) {
            count = animals;
            Arrays.fill(forms, NONE);
        }

        boolean setForm(int animal, int mark, int form) {
            if (!has(animal, mark) || form < NONE || form > MOST_FORM) {
                return false;
            }
            forms[animal * MARKS + mark] = form;
            return true;
        }

        boolean isLeftOut(int child, int parent) {
            for (int mark = 0; mark < MARKS; mark++) {
                if (isKnownOfBoth(child, parent, mark) && difference(child, parent, mark) == MOST_FORM) {
                    return true;
                }
            }
            return false;
        }

        /** Over all four marks both products stay below 2^49: none is above 96 * 48 for a mark. */
        long oddsOf(int child, int parent, int part) {
            long above = 1;
            long below = 1;
            for (int mark = 0; mark < MARKS; mark++) {
                if (isKnownOfBoth(child, parent, mark)) {
                    long letters = 2L * knownForms(mark);
                    long b = lettersB(mark);
                    int form = formOf(child, mark);
                    // P is over 2 * letters and Q over letters * letters: this is P / Q.
                    above *= amongChildren(form, formOf(parent, mark), letters - b, b) * letters;
                    below *= amongStrangers(form, letters - b, b) * 2;
                }
            }
            return Fraction.lowest(above, below, part);
        }

        long likenessOf(int a, int b, int part) {
            long alike = 0;
            long known = 0;
            for (int mark = 0; mark < MARKS; mark++) {
                if (isKnownOfBoth(a, b, mark)) {
                    alike += 2 - difference(a, b, mark);
                    known++;
                }
            }
            return known == 0 ? NONE : Fraction.lowest(alike, 2 * known, part);
        }

        private boolean has(int animal, int mark) {
            return animal >= 0 && animal < count && mark >= 0 && mark < MARKS;
        }

        private int formOf(int animal, int mark) {
            return has(animal, mark) ? forms[animal * MARKS + mark] : NONE;
        }

        private boolean isKnownOfBoth(int a, int b, int mark) {
            return formOf(a, mark) != NONE && formOf(b, mark) != NONE;
        }

        private int difference(int a, int b, int mark) {
            return Math.abs(formOf(a, mark) - formOf(b, mark));
        }

        private int knownForms(int mark) {
            int known = 0;
            for (int animal = 0; animal < count; animal++) {
                if (formOf(animal, mark) != NONE) {
                    known++;
                }
            }
            return known;
        }

        private int lettersB(int mark) {
            int letters = 0;
            for (int animal = 0; animal < count; animal++) {
                letters += Math.max(0, formOf(animal, mark));
            }
            return letters;
        }

        /** P of the document, times 2 * (a + b), with a letters A and b letters B in all. */
        private static long amongChildren(int form, int parentForm, long a, long b) {
            if (form == 0) {
                return (2 - parentForm) * a;
            }
            return form == 1 ? parentForm * a + (2 - parentForm) * b : parentForm * b;
        }

        /** Q of the document, times (a + b) * (a + b); the child's own letters keep it above 0. */
        private static long amongStrangers(int form, long a, long b) {
            if (form == 0) {
                return a * a;
            }
            return form == 1 ? 2 * a * b : b * b;
        }
    }
}
