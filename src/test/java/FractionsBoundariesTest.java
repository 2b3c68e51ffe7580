import java.math.BigInteger;

/** Each sentence on promises 6 to 9, 16 and 17 that names a boundary, with a test of its own. */
public final class FractionsBoundariesTest {
    private static final int NONE = KinNumbers.NONE;
    private static final int ANIMALS = 24;
    private static final int PAIRS = ANIMALS / 2;
    private static final Check CHECK = new Check();

    public static void main(String[] args) {
        fractions();
        promise6();
        promise7();
        promise8();
        promise9();
        promise16();
        promise17();
        CHECK.end();
    }

    private static int[] noSuch(int animals) {
        return new int[] {NONE, -2, animals, animals + 1, 25, Integer.MIN_VALUE, Integer.MAX_VALUE};
    }

    /** Each one, but for 0, has the one before it for its only parent. */
    private static Asked line() {
        Asked x = new Asked(ANIMALS);
        for (int child = 1; child < ANIMALS; child++) {
            x.parents(child, child % 2 == 0 ? child - 1 : NONE, child % 2 == 0 ? NONE : child - 1);
        }
        return x;
    }

    /** Two founders, their two children, the two of these, and so on: 12 pairs, each of full sibs. */
    private static Asked pairsOfSibs() {
        Asked x = new Asked(ANIMALS);
        for (int child = 2; child < ANIMALS; child++) {
            int mother = child % 2 == 0 ? child - 2 : child - 3;
            x.parents(child, mother, mother + 1);
        }
        return x;
    }

    /**
     * Inbreeding of each pair, and of a pair after the last, pair k in parts of 2^k, by the rule for
     * full sibs: (1 + 2 F + G) / 4 with F that of the pair before, and G that of the one before it.
     */
    private static long[] inbreedingOfPairs() {
        long[] parts = new long[PAIRS + 1];
        for (int pair = 2; pair <= PAIRS; pair++) {
            parts[pair] = (1L << (pair - 2)) + parts[pair - 1] + parts[pair - 2];
        }
        return parts;
    }

    private static void fractions() {
        CHECK.sentence("FRACTIONS are told in lowest terms (part 0: above, part 1: below, above 0; 0 as 0 over 1).");
        Asked x = new Asked(4);
        x.mark(0, 0, 0);
        x.mark(1, 0, 2);
        x.mark(2, 0, 0);
        CHECK.fraction("kin of 0", part -> x.kin(0, 1, part), 0, 1);
        CHECK.fraction("inbred of 0", part -> x.inbred(0, part), 0, 1);
        CHECK.fraction("share of 0", part -> x.share(0, 1, part), 0, 1);
        CHECK.fraction("odds of 0", part -> x.odds(0, 1, part), 0, 1);
        CHECK.fraction("like of 0", part -> x.like(0, 1, part), 0, 1);
        CHECK.fraction("chance of 1", part -> x.chance(0, part), 1, 1);
        CHECK.fraction("share of 1", part -> x.share(0, 0, part), 1, 1);
        CHECK.fraction("odds of 1", part -> x.odds(0, 3, part), 1, 1);
        CHECK.fraction("like of 1", part -> x.like(0, 2, part), 1, 1);
        CHECK.fraction("a half", part -> x.kin(0, 0, part), 1, 2);
    }

    private static void promise6() {
        kinOfOneAndTheSame();
        kinOfForbears();
        kinWhenNeitherIsAForbear();
        kinOfUnknownOnes();
        kinAtItsSmallest();
        kinNone();
    }

    private static void kinOfOneAndTheSame() {
        CHECK.sentence("of one and the same: (1 + f(its mother, its father)) / 2");
        long[] inbreeding = inbreedingOfPairs();
        for (int pair = 0; pair < PAIRS; pair++) {
            Asked x = pairsOfSibs();
            long parts = (1L << pair) + inbreeding[pair];
            checkLowest("kin(" + 2 * pair + ", itself)", x, 2 * pair, 2 * pair, parts, 2L << pair);
            checkLowest("kin(" + (2 * pair + 1) + ", itself)", x, 2 * pair + 1, 2 * pair + 1, parts, 2L << pair);
        }
        Asked one = new Asked(1);
        CHECK.fraction("one alone", part -> one.kin(0, 0, part), 1, 2);
    }

    private static void kinOfForbears() {
        CHECK.sentence("of two, of which the one that is NOT a forbear of the other one is x");
        Asked down = new Asked(4);
        down.parents(1, 0, NONE);
        down.parents(2, 0, 1);
        down.parents(3, 0, 2);
        Asked up = new Asked(4);
        up.parents(2, 3, NONE);
        up.parents(1, 3, 2);
        up.parents(0, 3, 1);
        long[][] withTheFirst = {{1, 2}, {1, 4}, {3, 8}, {7, 16}};
        for (int step = 0; step < 4; step++) {
            int animal = step;
            long[] want = withTheFirst[step];
            CHECK.fraction("forbear of a lesser number", part -> down.kin(0, animal, part), want[0], want[1]);
            CHECK.fraction("forbear of a lesser number, told last", part -> down.kin(animal, 0, part), want[0], want[1]);
            CHECK.fraction("forbear of a greater number", part -> up.kin(3, 3 - animal, part), want[0], want[1]);
            CHECK.fraction("forbear of a greater number, told last", part -> up.kin(3 - animal, 3, part), want[0], want[1]);
        }
    }

    private static void kinWhenNeitherIsAForbear() {
        CHECK.sentence("(when neither is, the greater number)");
        Asked x = new Asked(6);
        x.parents(5, 0, 1);
        x.parents(2, 0, 1);
        x.parents(3, 2, 4);
        CHECK.fraction("full sibs", part -> x.kin(5, 2, part), 1, 4);
        CHECK.fraction("an aunt of a greater number", part -> x.kin(5, 3, part), 1, 8);
        CHECK.fraction("told the other way", part -> x.kin(3, 5, part), 1, 8);
        CHECK.fraction("a founder of a greater number", part -> x.kin(4, 2, part), 0, 1);
        CHECK.fraction("mates", part -> x.kin(0, 1, part), 0, 1);
    }

    private static void kinOfUnknownOnes() {
        CHECK.sentence("0 for one that is unknown.");
        Asked x = new Asked(4);
        x.parents(1, 0, NONE);
        x.parents(2, NONE, 0);
        x.parents(3, NONE, NONE);
        CHECK.fraction("by the mother alone", part -> x.kin(1, 0, part), 1, 4);
        CHECK.fraction("by the father alone", part -> x.kin(2, 0, part), 1, 4);
        CHECK.fraction("half sibs", part -> x.kin(1, 2, part), 1, 8);
        CHECK.fraction("two unknown ones are no kin", part -> x.kin(1, 1, part), 1, 2);
        CHECK.fraction("of two unknown parents", part -> x.kin(3, 0, part), 0, 1);
    }

    private static void kinAtItsSmallest() {
        CHECK.sentence("KIN of two animals; (the least that 24 animals can have, and the greatest)");
        for (int k = 0; k < ANIMALS; k += 4) {
            Asked x = line();
            for (int animal = k; animal < k + 4; animal++) {
                int last = animal;
                CHECK.fraction("kin(0, " + last + ") in a line", part -> x.kin(0, last, part), 1, 2L << last);
                CHECK.fraction("kin(" + last + ", 0) in a line", part -> x.kin(last, 0, part), 1, 2L << last);
                CHECK.fraction("kin(23, " + last + ") in a line", part -> x.kin(23, last, part), 1, 2L << (23 - last));
            }
        }
        Asked sibs = pairsOfSibs();
        checkLowest("the last pair", sibs, 22, 23, inbreedingOfPairs()[PAIRS], 1L << PAIRS);
    }

    private static void kinNone() {
        CHECK.sentence("NONE when there are none such, or for other parts. (kin)");
        for (int animals : new int[] {1, 7, 24}) {
            for (int other : noSuch(animals)) {
                Asked x = new Asked(animals);
                CHECK.noFraction("kin(" + other + ", 0)", part -> x.kin(other, 0, part));
                CHECK.noFraction("kin(0, " + other + ")", part -> x.kin(0, other, part));
                CHECK.noFraction("kin(" + other + ", itself)", part -> x.kin(other, other, part));
            }
        }
    }

    private static void promise7() {
        CHECK.sentence("INBRED of an animal is f of its parents. (from the least to the most that 24 animals can have)");
        long[] inbreeding = inbreedingOfPairs();
        for (int pair = 0; pair < PAIRS; pair++) {
            int animal = 2 * pair;
            Asked x = pairsOfSibs();
            long divisor = divisor(inbreeding[pair], 1L << pair);
            CHECK.fraction("inbred(" + animal + ")", part -> x.inbred(animal, part), inbreeding[pair] / divisor,
                (1L << pair) / divisor);
        }
        Asked x = line();
        x.parents(23, 22, 0);
        CHECK.fraction("by one line of 22 steps", part -> x.inbred(23, part), 1, 1L << 23);
        x.parents(23, 22, NONE);
        CHECK.fraction("one parent unknown", part -> x.inbred(23, part), 0, 1);
        CHECK.fraction("without parents", part -> x.inbred(0, part), 0, 1);
        CHECK.sentence("NONE likewise. (inbred)");
        for (int animals : new int[] {1, 7, 24}) {
            Asked y = new Asked(animals);
            for (int other : noSuch(animals)) {
                CHECK.noFraction("inbred(" + other + ")", part -> y.inbred(other, part));
            }
        }
    }

    private static void promise8() {
        CHECK.sentence("CHANCE of an animal: 1 without parents");
        Asked x = line();
        CHECK.fraction("without parents", part -> x.chance(0, part), 1, 1);
        CHECK.sentence("3 / 4 less a fourth of INBRED of the one that is known");
        CHECK.fraction("a mother that is not inbred", part -> x.chance(2, part), 3, 4);
        CHECK.fraction("a father that is not inbred", part -> x.chance(1, part), 3, 4);
        x.parents(22, 21, 0);
        x.parents(23, 22, NONE);
        CHECK.fraction("a mother that is the least inbred", part -> x.chance(23, part), 3 * (1L << 22) - 1, 1L << 24);
        x.parents(23, NONE, 22);
        CHECK.fraction("a father that is the least inbred", part -> x.chance(23, part), 3 * (1L << 22) - 1, 1L << 24);
        CHECK.sentence("1 / 2 less a fourth of INBRED of both together.");
        x.parents(23, 22, 1);
        CHECK.fraction("one of both inbred", part -> x.chance(23, part), (1L << 23) - 1, 1L << 24);
        CHECK.fraction("none of both inbred", part -> x.chance(22, part), 1, 2);
        long[] inbreeding = inbreedingOfPairs();
        for (int pair = 1; pair < PAIRS; pair++) {
            int animal = 2 * pair;
            Asked sibs = pairsOfSibs();
            long below = 1L << pair;
            long above = below / 2 - inbreeding[pair - 1];
            long divisor = divisor(above, below);
            CHECK.fraction("chance(" + animal + ")", part -> sibs.chance(animal, part), above / divisor, below / divisor);
        }
        CHECK.sentence("NONE likewise. (chance)");
        for (int animals : new int[] {1, 7, 24}) {
            Asked y = new Asked(animals);
            for (int other : noSuch(animals)) {
                CHECK.noFraction("chance(" + other + ")", part -> y.chance(other, part));
            }
        }
    }

    private static void promise9() {
        shareInFounders();
        shareInOthers();
        shareAtItsSmallest();
        shareNone();
        shareOfNoFounder();
    }

    private static void shareInFounders() {
        CHECK.sentence("THE SHARE of a founder in itself is 1, in another founder 0");
        Asked one = new Asked(1);
        CHECK.fraction("one alone", part -> one.share(0, 0, part), 1, 1);
        for (int founder = 0; founder < ANIMALS; founder++) {
            Asked x = new Asked(ANIMALS);
            int itself = founder;
            int another = (founder + 1) % ANIMALS;
            CHECK.fraction("in itself", part -> x.share(itself, itself, part), 1, 1);
            CHECK.fraction("in another", part -> x.share(another, itself, part), 0, 1);
        }
    }

    private static void shareInOthers() {
        CHECK.sentence("in others half of that in the mother and that in the father together (0 for an unknown one).");
        Asked x = new Asked(6);
        x.parents(2, 0, NONE);
        x.parents(3, NONE, 0);
        x.parents(4, 2, 3);
        x.parents(5, 0, 4);
        CHECK.fraction("by the mother", part -> x.share(2, 0, part), 1, 2);
        CHECK.fraction("by the father", part -> x.share(3, 0, part), 1, 2);
        CHECK.fraction("by both", part -> x.share(4, 0, part), 1, 2);
        CHECK.fraction("by itself and a child's child", part -> x.share(5, 0, part), 3, 4);
        CHECK.fraction("of one that is no forbear", part -> x.share(5, 1, part), 0, 1);
        x.parents(2, 0, 1);
        CHECK.fraction("asked of another founder after it", part -> x.share(4, 1, part), 1, 4);
        CHECK.fraction("and of the first again", part -> x.share(4, 0, part), 1, 2);
    }

    private static void shareAtItsSmallest() {
        CHECK.sentence("THE SHARE of a founder in an animal (the least and the most that 24 animals can have)");
        Asked x = line();
        for (int animal = 0; animal < ANIMALS; animal++) {
            int heir = animal;
            CHECK.fraction("share(" + heir + ", 0)", part -> x.share(heir, 0, part), 1, 1L << heir);
        }
        Asked back = new Asked(ANIMALS);
        back.parents(1, 0, NONE);
        for (int child = 2; child < ANIMALS; child++) {
            back.parents(child, 0, child - 1);
        }
        for (int animal = 1; animal < ANIMALS; animal++) {
            int heir = animal;
            CHECK.fraction("share(" + heir + ", 0)", part -> back.share(heir, 0, part), (1L << heir) - 1, 1L << heir);
        }
    }

    private static void shareNone() {
        CHECK.sentence("NONE when there are none such, .. or for other parts. (share)");
        for (int animals : new int[] {1, 7, 24}) {
            for (int other : noSuch(animals)) {
                Asked x = new Asked(animals);
                CHECK.noFraction("share(" + other + ", 0)", part -> x.share(other, 0, part));
                CHECK.noFraction("share(0, " + other + ")", part -> x.share(0, other, part));
                CHECK.noFraction("share(" + other + ", itself)", part -> x.share(other, other, part));
            }
        }
    }

    private static void shareOfNoFounder() {
        CHECK.sentence("or the other one is no founder");
        Asked x = new Asked(5);
        x.parents(2, 0, 1);
        x.parents(3, 2, NONE);
        x.parents(4, NONE, 2);
        for (int other : new int[] {2, 3, 4}) {
            CHECK.noFraction("share(0, " + other + ")", part -> x.share(0, other, part));
            CHECK.noFraction("share(4, " + other + ")", part -> x.share(4, other, part));
            CHECK.noFraction("share(" + other + ", itself)", part -> x.share(other, other, part));
        }
        x.parents(2, NONE, NONE);
        CHECK.fraction("a founder now", part -> x.share(4, 2, part), 1, 2);
        CHECK.fraction("the former founder", part -> x.share(4, 0, part), 0, 1);
    }

    private static void promise16() {
        lostDoesNotLive();
        lostHeirs();
        lostByItsNumber();
        lostNone();
    }

    private static void lostDoesNotLive() {
        CHECK.sentence("The k-th founder, .. that does not live");
        Asked x = new Asked(3);
        CHECK.rows("lost, none dead", x::lost);
        x.lives(1, false);
        CHECK.rows("lost, one dead", x::lost, 1);
        x.lives(1, true);
        CHECK.rows("lost, it lives again", x::lost);
        x.parents(2, 0, 1);
        x.lives(2, false);
        CHECK.rows("lost, no founder", x::lost);
        x.parents(2, 0, NONE);
        CHECK.rows("lost, no founder with one parent unknown", x::lost);
        x.parents(2, NONE, NONE);
        CHECK.rows("lost, a founder again", x::lost, 2);
    }

    private static void lostHeirs() {
        CHECK.sentence("and of which no animal that it is a forbear of lives");
        Asked x = line();
        for (int animal = 0; animal < 23; animal++) {
            x.lives(animal, false);
        }
        CHECK.rows("lost, the last of the line lives", x::lost);
        x.lives(23, false);
        CHECK.rows("lost, none of the line lives", x::lost, 0);
        x.lives(1, true);
        CHECK.rows("lost, the child lives", x::lost);
        x.parents(1, NONE, NONE);
        CHECK.rows("lost, it is no child any more", x::lost, 0);
        Asked up = new Asked(2);
        up.parents(0, NONE, 1);
        up.lives(1, false);
        CHECK.rows("lost, a child of a lesser number lives", up::lost);
        up.lives(0, false);
        CHECK.rows("lost, it is dead too", up::lost, 1);
    }

    private static void lostByItsNumber() {
        CHECK.sentence("The k-th founder, by its number");
        Asked x = new Asked(ANIMALS);
        int[] all = new int[ANIMALS];
        for (int animal = 23; animal >= 0; animal--) {
            x.lives(animal, false);
            all[animal] = animal;
        }
        CHECK.rows("lost, all", x::lost, all);
        x.lives(0, true);
        x.lives(22, true);
        CHECK.due("the first without 0", x.lost(0), 1);
        CHECK.due("the last", x.lost(21), 23);
        CHECK.due("beyond the last", x.lost(22), NONE);
    }

    private static void lostNone() {
        CHECK.sentence("NONE when there is none. (lost)");
        Asked x = new Asked(1);
        CHECK.rows("lost, one alone that lives", x::lost);
        x.lives(0, false);
        CHECK.rows("lost, one alone that is dead", x::lost, 0);
        for (int k : new int[] {-1, -2, -24, Integer.MIN_VALUE, 1, 24, Integer.MAX_VALUE}) {
            CHECK.due("lost(" + k + ")", x.lost(k), NONE);
        }
    }

    private static void promise17() {
        CHECK.sentence("The mean of f(a, b) over all a and b that live (a = b, too)");
        Asked one = new Asked(1);
        CHECK.fraction("one alone", one::diverse, 1, 2);
        for (int animals = 1; animals <= ANIMALS; animals++) {
            Asked founders = new Asked(animals);
            CHECK.fraction("founders", founders::diverse, 1, 2L * animals);
        }
        checkDiverseOfLine();
        Asked pair = new Asked(3);
        pair.parents(2, 0, 1);
        pair.lives(1, false);
        CHECK.fraction("mother and child", pair::diverse, 3, 8);
        pair.lives(0, false);
        CHECK.fraction("the child alone", pair::diverse, 1, 2);
        CHECK.sentence("NONE when none does, or for other parts. (diverse)");
        pair.lives(2, false);
        CHECK.noFraction("none lives", pair::diverse);
        one.lives(0, false);
        CHECK.noFraction("one alone, dead", one::diverse);
        one.lives(0, true);
        CHECK.fraction("it lives again", one::diverse, 1, 2);
    }

    /** In a line f is 1 / 2^(steps between + 1); with 23 that live, below is more than an int can hold. */
    private static void checkDiverseOfLine() {
        int dead = 12;
        BigInteger sum = BigInteger.ZERO;
        for (int a = 0; a < ANIMALS; a++) {
            for (int b = 0; b < ANIMALS; b++) {
                if (a != dead && b != dead) {
                    sum = sum.add(BigInteger.ONE.shiftLeft(23 - Math.abs(a - b)));
                }
            }
        }
        BigInteger below = BigInteger.valueOf(23 * 23).shiftLeft(24);
        BigInteger divisor = sum.gcd(below);
        long wantBelow = below.divide(divisor).longValueExact();
        CHECK.due("the test asks beyond the ints", wantBelow > Integer.MAX_VALUE, true);
        Asked x = line();
        x.lives(dead, false);
        CHECK.fraction("a line of 24", x::diverse, sum.divide(divisor).longValueExact(), wantBelow);
    }

    private static void checkLowest(String call, Asked x, int a, int b, long above, long below) {
        long divisor = divisor(above, below);
        CHECK.fraction(call, part -> x.kin(a, b, part), above / divisor, below / divisor);
    }

    private static long divisor(long a, long b) {
        return b == 0 ? a : divisor(b, a % b);
    }
}
