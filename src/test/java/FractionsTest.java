/** Promises 6 to 9, 16 and 17: kin, inbreeding, chance, shares, what is lost, and the mean of kin. */
public final class FractionsTest {
    private static final int NONE = KinNumbers.NONE;
    private static final int[] NO_SUCH = {-1, -2, 7, 24, Integer.MIN_VALUE, Integer.MAX_VALUE};
    private static final Check CHECK = new Check();

    public static void main(String[] args) {
        promise6Kin();
        promise6HalfKnown();
        promise6GreaterNumberFirst();
        promise7Inbred();
        promise8Chance();
        promise9Share();
        promise16Lost();
        promise17Diverse();
        wrongInputs();
        CHECK.end();
    }

    /** 0 and 1 have 2 and 3, these have 4, 4 and 2 have 5; 6 stands alone. */
    private static Asked family() {
        Asked x = new Asked(7);
        x.parents(2, 0, 1);
        x.parents(3, 0, 1);
        x.parents(4, 2, 3);
        x.parents(5, 4, 2);
        return x;
    }

    private static void promise6Kin() {
        int[][] sixteenths = {
            {8, 0, 4, 4, 4, 4, 0},
            {0, 8, 4, 4, 4, 4, 0},
            {4, 4, 8, 4, 6, 7, 0},
            {4, 4, 4, 8, 6, 5, 0},
            {4, 4, 6, 6, 10, 8, 0},
            {4, 4, 7, 5, 8, 11, 0},
            {0, 0, 0, 0, 0, 0, 8}};
        for (int a = 0; a < 7; a++) {
            Asked x = family();
            for (int b = 0; b < 7; b++) {
                checkKin(x, a, b, sixteenths[a][b], 16);
            }
        }
    }

    private static void promise6HalfKnown() {
        Asked x = new Asked(4);
        x.parents(1, 0, NONE);
        x.parents(2, NONE, 1);
        x.parents(3, 2, 0);
        checkKin(x, 1, 1, 1, 2);
        checkKin(x, 0, 1, 1, 4);
        checkKin(x, 0, 2, 1, 8);
        checkKin(x, 3, 0, 5, 16);
        checkKin(x, 3, 3, 9, 16);
        x.parents(3, NONE, NONE);
        checkKin(x, 3, 0, 0, 1);
        checkKin(x, 3, 3, 1, 2);
    }

    /** Numbers run against the generations here: the one that is no forbear has the lesser number. */
    private static void promise6GreaterNumberFirst() {
        Asked x = new Asked(5);
        x.parents(2, 4, 3);
        x.parents(1, 4, 3);
        x.parents(0, 2, 1);
        checkKin(x, 0, 4, 1, 4);
        checkKin(x, 2, 1, 1, 4);
        checkKin(x, 0, 2, 3, 8);
        checkKin(x, 0, 0, 5, 8);
        CHECK.fraction("inbred(0)", part -> x.inbred(0, part), 1, 4);
    }

    private static void promise7Inbred() {
        Asked x = family();
        long[][] want = {{0, 1}, {0, 1}, {0, 1}, {0, 1}, {1, 4}, {3, 8}, {0, 1}};
        for (int k = 0; k < want.length; k++) {
            int animal = k;
            CHECK.fraction("inbred(" + animal + ")", part -> x.inbred(animal, part), want[k][0], want[k][1]);
        }
        x.parents(5, 4, NONE);
        CHECK.fraction("inbred of one parent known", part -> x.inbred(5, part), 0, 1);
    }

    private static void promise8Chance() {
        Asked x = family();
        CHECK.fraction("chance without parents", part -> x.chance(0, part), 1, 1);
        CHECK.fraction("chance of parents not inbred", part -> x.chance(4, part), 1, 2);
        CHECK.fraction("chance of an inbred mother", part -> x.chance(5, part), 7, 16);
        x.parents(6, 4, 5);
        CHECK.fraction("chance of both inbred", part -> x.chance(6, part), 11, 32);
        x.parents(6, 5, NONE);
        CHECK.fraction("chance of an inbred mother alone", part -> x.chance(6, part), 21, 32);
        x.parents(6, NONE, 4);
        CHECK.fraction("chance of an inbred father alone", part -> x.chance(6, part), 11, 16);
        x.parents(6, 0, NONE);
        CHECK.fraction("chance of a mother alone, not inbred", part -> x.chance(6, part), 3, 4);
    }

    private static void promise9Share() {
        Asked x = family();
        checkShare(x, 0, 0, 1, 1);
        checkShare(x, 0, 1, 0, 1);
        checkShare(x, 5, 0, 1, 2);
        checkShare(x, 5, 1, 1, 2);
        checkShare(x, 5, 6, 0, 1);
        checkShare(x, 6, 6, 1, 1);
        x.parents(6, 5, NONE);
        checkShare(x, 6, 0, 1, 4);
        x.parents(4, 2, NONE);
        checkShare(x, 4, 0, 1, 4);
        checkShare(x, 5, 0, 3, 8);
        checkShare(x, 6, 0, 3, 16);
        x.parents(3, NONE, NONE);
        x.parents(4, NONE, 3);
        checkShare(x, 5, 3, 1, 4);
        checkShare(x, 5, 1, 1, 4);
        for (int founder : new int[] {2, 4, 5, 6}) {
            CHECK.noFraction("share of no founder", part -> x.share(5, founder, part));
            CHECK.noFraction("share of no founder in itself", part -> x.share(founder, founder, part));
        }
    }

    private static void promise16Lost() {
        Asked x = family();
        CHECK.rows("lost, all live", x::lost);
        x.lives(0, false);
        x.lives(6, false);
        CHECK.rows("lost, without heirs", x::lost, 6);
        x.lives(1, false);
        x.lives(2, false);
        x.lives(4, false);
        x.lives(5, false);
        CHECK.rows("lost, with a living child", x::lost, 6);
        x.lives(3, false);
        CHECK.rows("lost, all of them dead", x::lost, 0, 1, 6);
        x.lives(5, true);
        CHECK.rows("lost, with a living grandchild's child", x::lost, 6);
        x.parents(5, NONE, NONE);
        CHECK.rows("lost, whose heir has other parents", x::lost, 0, 1, 6);
        x.lives(1, true);
        CHECK.rows("lost, one lives", x::lost, 0, 6);
        x.parents(2, NONE, NONE);
        x.parents(3, NONE, NONE);
        x.parents(0, NONE, 3);
        x.lives(0, true);
        CHECK.rows("lost, with a living heir of lesser number", x::lost, 2, 6);
    }

    /** The rows of promise6Kin's table for 0 to 5 add up to 189 sixteenths, that of 6 to 8. */
    private static void promise17Diverse() {
        Asked x = family();
        x.lives(6, false);
        CHECK.fraction("diverse of six", x::diverse, 21, 64);
        x.parents(1, NONE, NONE);
        x.lives(6, true);
        CHECK.fraction("diverse with a stranger", x::diverse, 197, 784);
        for (int dead : new int[] {2, 3, 4, 5, 6}) {
            x.lives(dead, false);
        }
        CHECK.fraction("diverse of two founders", x::diverse, 1, 4);
        x.lives(0, false);
        CHECK.fraction("diverse of one", x::diverse, 1, 2);
        x.lives(1, false);
        CHECK.noFraction("diverse of none", x::diverse);
        x.lives(5, true);
        CHECK.fraction("diverse of one inbred", x::diverse, 11, 16);
    }

    private static void wrongInputs() {
        Asked x = family();
        for (int other : NO_SUCH) {
            CHECK.noFraction("kin(" + other + ", 0)", part -> x.kin(other, 0, part));
            CHECK.noFraction("kin(0, " + other + ")", part -> x.kin(0, other, part));
            CHECK.noFraction("kin(" + other + ", itself)", part -> x.kin(other, other, part));
            CHECK.noFraction("inbred(" + other + ")", part -> x.inbred(other, part));
            CHECK.noFraction("chance(" + other + ")", part -> x.chance(other, part));
            CHECK.noFraction("share(" + other + ", 0)", part -> x.share(other, 0, part));
            CHECK.noFraction("share(0, " + other + ")", part -> x.share(0, other, part));
        }
    }

    private static void checkKin(Asked x, int a, int b, long above, long below) {
        long divisor = greatestDivisor(above, below);
        CHECK.fraction("kin(" + a + ", " + b + ")", part -> x.kin(a, b, part), above / divisor, below / divisor);
        CHECK.fraction("kin(" + b + ", " + a + ")", part -> x.kin(b, a, part), above / divisor, below / divisor);
    }

    private static void checkShare(Asked x, int animal, int founder, long above, long below) {
        CHECK.fraction("share(" + animal + ", " + founder + ")", part -> x.share(animal, founder, part), above, below);
    }

    private static long greatestDivisor(long a, long b) {
        return b == 0 ? a : greatestDivisor(b, a % b);
    }
}
