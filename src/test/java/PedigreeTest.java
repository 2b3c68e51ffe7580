/** Promises 1 to 5, 10, 11 and 18: animals, parents, rings, sexes, days, lives, forbears, ORDER. */
public final class PedigreeTest {
    private static final int NONE = KinNumbers.NONE;
    private static final int[] NO_SUCH = {-1, -2, 6, 24, Integer.MIN_VALUE, Integer.MAX_VALUE};
    private static final Check CHECK = new Check();

    public static void main(String[] args) {
        promise1NewObject();
        promise2Parents();
        promise2Refusals();
        promise2SexesAndDays();
        promise3Ring();
        promise3RingForgotten();
        promise3LongestRing();
        promise3RingBeforeSexesAndDays();
        promise4Told();
        promise4ToldAgainstParentsAndChildren();
        promise5Lives();
        promise10IsForbear();
        promise11Order();
        promise18Animal();
        refusalsChangeNothing();
        CHECK.end();
    }

    private static void promise1NewObject() {
        int[][] askedAndMade = {
            {Integer.MIN_VALUE, 1}, {-1, 1}, {0, 1}, {1, 1}, {2, 2}, {23, 23}, {24, 24}, {25, 24}, {Integer.MAX_VALUE, 24}};
        for (int[] row : askedAndMade) {
            Asked x = new Asked(row[0]);
            CHECK.due("last of " + row[0], x.order(row[1] - 1), row[1] - 1);
            CHECK.due("beyond " + row[0], x.order(row[1]), NONE);
            CHECK.due("lives, last of " + row[0], x.lives(row[1] - 1, true), true);
            CHECK.due("lives, beyond " + row[0], x.lives(row[1], true), false);
            for (int animal = 0; animal < row[1]; animal++) {
                checkAnimal(x, animal, NONE, NONE, 0, NONE, 1, 0);
            }
        }
    }

    private static void promise2Parents() {
        Asked x = new Asked(6);
        CHECK.due("both known", x.parents(2, 0, 1), true);
        checkAnimal(x, 2, 0, 1, 0, NONE, 1, 1);
        CHECK.due("in place of those it had", x.parents(2, 4, 3), true);
        checkAnimal(x, 2, 4, 3, 0, NONE, 1, 1);
        CHECK.due("mother alone", x.parents(2, 5, NONE), true);
        checkAnimal(x, 2, 5, NONE, 0, NONE, 1, 1);
        CHECK.due("father alone", x.parents(2, NONE, 5), true);
        checkAnimal(x, 2, NONE, 5, 0, NONE, 1, 1);
        CHECK.due("neither", x.parents(2, NONE, NONE), true);
        checkAnimal(x, 2, NONE, NONE, 0, NONE, 1, 0);
        CHECK.due("now its former father may be its child", x.parents(5, 2, NONE), true);
        CHECK.due("a mother may be a father elsewhere while its sex is unknown", x.parents(4, NONE, 2), true);
    }

    private static void promise2Refusals() {
        Asked x = new Asked(6);
        for (int other : NO_SUCH) {
            CHECK.due("child " + other, x.parents(other, 0, 1), false);
            CHECK.due("child " + other + " of none", x.parents(other, NONE, NONE), false);
            CHECK.due("mother " + other, x.parents(2, other, 1), other == NONE);
            CHECK.due("father " + other, x.parents(2, 0, other), other == NONE);
        }
        CHECK.due("both the same", x.parents(2, 1, 1), false);
        CHECK.due("its own mother", x.parents(2, 2, NONE), false);
        CHECK.due("its own father", x.parents(2, 0, 2), false);
        x.parents(3, 2, NONE);
        x.parents(4, NONE, 3);
        CHECK.due("grandchild as mother", x.parents(2, 4, NONE), false);
        CHECK.due("grandchild as father", x.parents(2, 0, 4), false);
        CHECK.due("child as father", x.parents(2, NONE, 3), false);
        checkAnimal(x, 2, 0, NONE, 0, NONE, 1, 1);
    }

    private static void promise2SexesAndDays() {
        Asked x = new Asked(6);
        x.told(0, 1, 10);
        x.told(1, 2, 20);
        x.told(2, 0, 20);
        CHECK.due("male mother", x.parents(5, 1, NONE), false);
        CHECK.due("female father", x.parents(5, NONE, 0), false);
        CHECK.due("both the wrong way", x.parents(5, 1, 0), false);
        CHECK.due("right way", x.parents(5, 0, 1), true);
        CHECK.due("father born on the child's day", x.parents(2, 0, 1), false);
        CHECK.due("mother born on the child's day", x.parents(1, 2, NONE), false);
        CHECK.due("mother born a day before", x.parents(1, 0, NONE), true);
        CHECK.due("father born later", x.parents(0, NONE, 2), false);
        CHECK.due("mother born later", x.parents(0, 2, NONE), false);
        CHECK.due("a parent of unknown day", x.parents(0, 3, 4), true);
        CHECK.due("a child of unknown day", x.parents(4, NONE, NONE) && x.parents(5, 2, 1), true);
    }

    private static void promise3Ring() {
        Asked x = new Asked(8);
        CHECK.rows("ring at first", x::ring);
        x.parents(2, 0, 1);
        CHECK.rows("ring after what is right", x::ring);
        x.parents(0, 0, NONE);
        CHECK.rows("ring of its own mother", x::ring, 0, 0);
        x.parents(0, 1, 0);
        CHECK.rows("ring of its own father", x::ring, 0, 0);
        x.parents(0, NONE, 2);
        CHECK.rows("ring by the father's mother", x::ring, 0, 2, 0);
        x.parents(1, 2, 0);
        CHECK.rows("ring by the mother's father", x::ring, 1, 2, 1);
        x.parents(3, 0, 2);
        x.parents(4, 1, 3);
        x.parents(0, 4, 3);
        CHECK.rows("mother's side first, father where the mother does not lead", x::ring, 0, 4, 3, 0);
        x.parents(1, 0, 4);
        CHECK.rows("father told, then its mother", x::ring, 1, 4, 1);
        x.parents(0, 3, 2);
        CHECK.rows("a mother that is the child ends it", x::ring, 0, 3, 0);
        x.parents(1, 3, 4);
        CHECK.rows("father's line inside", x::ring, 1, 3, 2, 1);
        x.told(5, 1, 3);
        x.lives(5, false);
        x.mark(5, 0, 1);
        CHECK.due("told() of none such", x.told(9, 1, 3), false);
        CHECK.rows("ring is kept by other calls", x::ring, 1, 3, 2, 1);
    }

    private static void promise3RingForgotten() {
        int[][] others = {{9, 0, 1}, {2, 9, 1}, {2, 0, 9}, {2, 6, 6}, {0, 0, 0}, {6, NONE, 5}, {7, 6, NONE}, {7, NONE, NONE}};
        for (int[] row : others) {
            Asked x = new Asked(8);
            x.told(5, 1, 3);
            x.parents(2, 0, 1);
            x.parents(1, 2, NONE);
            CHECK.rows("ring", x::ring, 1, 2, 1);
            x.parents(row[0], row[1], row[2]);
            CHECK.rows("ring after parents of " + row[0], x::ring);
        }
    }

    private static void promise3LongestRing() {
        Asked x = new Asked(24);
        int[] want = new int[25];
        for (int child = 1; child < 24; child++) {
            CHECK.due("line", child % 2 == 0 ? x.parents(child, child - 1, NONE) : x.parents(child, NONE, child - 1), true);
            want[24 - child] = child;
        }
        CHECK.due("closing the line", x.parents(0, NONE, 23), false);
        CHECK.rows("ring of all", x::ring, want);
    }

    private static void promise3RingBeforeSexesAndDays() {
        Asked x = new Asked(4);
        x.told(0, 1, 5);
        x.told(1, 2, 9);
        x.parents(1, 0, NONE);
        CHECK.due("a ring that sexes and days refuse too", x.parents(0, 1, NONE), false);
        CHECK.rows("ring is told", x::ring, 0, 1, 0);
        CHECK.due("sex alone", x.parents(2, 1, NONE), false);
        CHECK.rows("no ring for a sex", x::ring);
        x.parents(0, 1, NONE);
        x.told(3, 0, 1);
        CHECK.due("day alone", x.parents(3, 0, NONE), false);
        CHECK.rows("no ring for a day", x::ring);
    }

    private static void promise4Told() {
        Asked x = new Asked(6);
        CHECK.due("first day", x.told(1, 1, 0), true);
        checkAnimal(x, 1, NONE, NONE, 1, 0, 1, 0);
        CHECK.due("last day", x.told(1, 2, 99999), true);
        checkAnimal(x, 1, NONE, NONE, 2, 99999, 1, 0);
        for (int day : new int[] {100000, -2, Integer.MIN_VALUE, Integer.MAX_VALUE}) {
            CHECK.due("day " + day, x.told(1, 1, day), false);
        }
        for (int sex : new int[] {-1, 3, Integer.MIN_VALUE, Integer.MAX_VALUE}) {
            CHECK.due("sex " + sex, x.told(1, sex, 7), false);
        }
        for (int animal : NO_SUCH) {
            CHECK.due("animal " + animal, x.told(animal, 1, 7), false);
        }
        checkAnimal(x, 1, NONE, NONE, 2, 99999, 1, 0);
        CHECK.due("unknown again", x.told(1, 0, NONE), true);
        checkAnimal(x, 1, NONE, NONE, 0, NONE, 1, 0);
    }

    private static void promise4ToldAgainstParentsAndChildren() {
        Asked x = new Asked(6);
        x.parents(2, 0, 1);
        x.parents(3, 2, NONE);
        CHECK.due("a mother is not male", x.told(0, 2, NONE), false);
        CHECK.due("a mother is female", x.told(0, 1, 10), true);
        CHECK.due("a father is not female", x.told(1, 1, NONE), false);
        CHECK.due("a father is male", x.told(1, 2, 12), true);
        CHECK.due("on the father's day", x.told(2, 0, 12), false);
        CHECK.due("between the parents", x.told(2, 0, 11), false);
        CHECK.due("on the mother's day", x.told(2, 0, 10), false);
        CHECK.due("a day after the father", x.told(2, 0, 13), true);
        CHECK.due("mother on the child's day", x.told(0, 1, 13), false);
        CHECK.due("father after the child", x.told(1, 2, 14), false);
        CHECK.due("father a day before", x.told(1, 2, 12), true);
        CHECK.due("sex is refused with the day", x.told(0, 0, 13), false);
        checkAnimal(x, 0, NONE, NONE, 1, 10, 1, 0);
        CHECK.due("grandchild of unknown day", x.told(3, 1, 14), true);
        CHECK.due("unknown day for the one between", x.told(2, 0, NONE), true);
        CHECK.due("days are asked of parents alone, not of theirs", x.told(3, 1, 5), true);
        CHECK.due("unknown sex for a mother", x.told(0, 0, 10), true);
        x.parents(4, NONE, 0);
        CHECK.due("mother here and father there: not female", x.told(0, 1, 10), false);
        CHECK.due("mother here and father there: not male", x.told(0, 2, 10), false);
        CHECK.due("mother here and father there: unknown", x.told(0, 0, 9), true);
        x.parents(0, NONE, 5);
        CHECK.due("a father of the first animal is not female", x.told(5, 1, NONE), false);
        CHECK.due("a father of the first animal is born before it", x.told(5, 2, 9), false);
        CHECK.due("a father of the first animal", x.told(5, 2, 8), true);
    }

    private static void promise5Lives() {
        Asked x = new Asked(6);
        CHECK.due("dies", x.lives(3, false), true);
        CHECK.due("is dead", x.animal(3, 4), 0);
        CHECK.due("others live", x.animal(2, 4), 1);
        CHECK.due("dies again", x.lives(3, false), true);
        CHECK.due("is dead", x.animal(3, 4), 0);
        CHECK.due("lives again", x.lives(3, true), true);
        CHECK.due("is alive", x.animal(3, 4), 1);
        for (int animal : NO_SUCH) {
            CHECK.due("lives(" + animal + ")", x.lives(animal, true), false);
            CHECK.due("dies(" + animal + ")", x.lives(animal, false), false);
        }
    }

    private static void promise10IsForbear() {
        Asked x = new Asked(6);
        x.parents(2, 0, 1);
        x.parents(3, NONE, 2);
        x.parents(4, 3, NONE);
        int[][] forbears = {{}, {}, {0, 1}, {0, 1, 2}, {0, 1, 2, 3}, {}};
        checkForbears(x, forbears);
        x.parents(3, NONE, NONE);
        checkForbears(x, new int[][] {{}, {}, {0, 1}, {}, {3}, {}});
        for (int animal : NO_SUCH) {
            CHECK.due("of none such", x.isForbear(0, animal), false);
            CHECK.due("none such", x.isForbear(animal, 2), false);
        }
    }

    private static void checkForbears(Asked x, int[][] forbears) {
        for (int of = 0; of < forbears.length; of++) {
            for (int a = 0; a < forbears.length; a++) {
                boolean want = false;
                for (int forbear : forbears[of]) {
                    want |= forbear == a;
                }
                CHECK.due("isForbear(" + a + ", " + of + ")", x.isForbear(a, of), want);
            }
        }
    }

    private static void promise11Order() {
        Asked x = new Asked(6);
        CHECK.rows("order", x::order, 0, 1, 2, 3, 4, 5);
        x.parents(0, 5, NONE);
        x.parents(3, 0, 4);
        x.parents(1, 3, 5);
        CHECK.rows("order by steps, then number", x::order, 2, 4, 5, 0, 3, 1);
        CHECK.due("steps are the greatest number of them", x.animal(1, 5), 3);
        x.parents(3, NONE, 4);
        CHECK.rows("order after fewer steps", x::order, 2, 4, 5, 0, 3, 1);
        CHECK.due("fewer steps", x.animal(1, 5), 2);
        x.parents(1, NONE, NONE);
        CHECK.rows("order after none", x::order, 1, 2, 4, 5, 0, 3);
        Asked line = new Asked(24);
        int[] want = new int[24];
        for (int k = 0; k < 24; k++) {
            want[k] = 23 - k;
            line.parents(22 - k, 23 - k, NONE);
        }
        CHECK.rows("order of a line", line::order, want);
        CHECK.due("steps of a line", line.animal(0, 5), 23);
    }

    private static void promise18Animal() {
        Asked x = new Asked(6);
        x.parents(3, 0, 1);
        x.parents(4, 2, 3);
        x.told(4, 2, 77);
        x.told(3, 0, 0);
        x.lives(4, false);
        checkAnimal(x, 4, 2, 3, 2, 77, 0, 2);
        checkAnimal(x, 3, 0, 1, 0, 0, 1, 1);
        checkAnimal(x, 5, NONE, NONE, 0, NONE, 1, 0);
        for (int what = -2; what < 8; what++) {
            for (int animal : NO_SUCH) {
                CHECK.due("animal(" + animal + ", " + what + ")", x.animal(animal, what), NONE);
            }
        }
    }

    private static void refusalsChangeNothing() {
        Asked x = new Asked(4);
        x.parents(2, 0, 1);
        x.parents(3, 2, 1);
        x.told(2, 1, 50);
        int[][] refused = {{0, 3, NONE}, {2, 0, 3}, {2, 1, 1}, {2, 9, 0}, {3, 0, 2}, {9, 0, 1}};
        for (int[] row : refused) {
            CHECK.due("refused", x.parents(row[0], row[1], row[2]), false);
            checkAnimal(x, 0, NONE, NONE, 0, NONE, 1, 0);
            checkAnimal(x, 2, 0, 1, 1, 50, 1, 1);
            checkAnimal(x, 3, 2, 1, 0, NONE, 1, 2);
            CHECK.fraction("kin(2, 3)", part -> x.kin(2, 3, part), 3, 8);
        }
    }

    /** Mother, father, sex, day, lives and steps; NONE for what is asked besides. */
    private static void checkAnimal(Asked x, int animal, int... want) {
        for (int what = 0; what < want.length; what++) {
            CHECK.due("animal(" + animal + ", " + what + ")", x.animal(animal, what), want[what]);
        }
        for (int what : new int[] {-1, 6, 7, Integer.MIN_VALUE, Integer.MAX_VALUE}) {
            CHECK.due("animal(" + animal + ", " + what + ")", x.animal(animal, what), NONE);
        }
    }
}
