/** Each sentence on promises 1 to 5, 10, 11 and 18 that names a boundary, with a test of its own. */
public final class PedigreeBoundariesTest {
    private static final int NONE = KinNumbers.NONE;
    private static final int FEMALE = 1;
    private static final int MALE = 2;
    private static final int LAST_DAY = 99999;
    private static final Check CHECK = new Check();

    public static void main(String[] args) {
        promise1();
        promise2();
        promise3();
        promise4();
        promise5();
        promise10();
        promise11();
        promise18();
        CHECK.end();
    }

    private static void promise1() {
        belowOneIsOne();
        above24Is24();
        numberedFromZero();
        unknownAtFirst();
    }

    private static void belowOneIsOne() {
        CHECK.sentence("So many animals (below 1: 1");
        for (int animals : new int[] {1, 0, -1, -24, Integer.MIN_VALUE}) {
            Asked x = new Asked(animals);
            CHECK.rows("order", x::order, 0);
            checkThere(x, 0, true);
            checkThere(x, 1, false);
        }
    }

    private static void above24Is24() {
        CHECK.sentence("above 24: 24)");
        for (int animals : new int[] {24, 25, 26, 48, 280, Integer.MAX_VALUE}) {
            Asked x = new Asked(animals);
            CHECK.due("order(23)", x.order(23), 23);
            CHECK.due("order(24)", x.order(24), NONE);
            checkThere(x, 23, true);
            checkThere(x, 24, false);
            checkThere(x, 25, false);
        }
    }

    private static void numberedFromZero() {
        CHECK.sentence("ANIMALS are numbered from 0.");
        for (int animals = 1; animals <= 24; animals++) {
            Asked x = new Asked(animals);
            checkThere(x, NONE, false);
            checkThere(x, 0, true);
            checkThere(x, animals - 1, true);
            checkThere(x, animals, false);
        }
    }

    /** Asks every call that takes an animal, in each of its places, whether there is such an animal. */
    private static void checkThere(Asked x, int animal, boolean want) {
        CHECK.due("told of " + animal, x.told(animal, 0, NONE), want);
        CHECK.due("lives of " + animal, x.lives(animal, true), want);
        CHECK.due("mark of " + animal, x.mark(animal, 0, 1), want);
        CHECK.due("parents of " + animal, x.parents(animal, NONE, NONE), want);
        CHECK.due("parents, ring of " + animal, x.parents(animal, animal, NONE) || x.ring(0) != NONE, want);
        long[] answers = {
            x.kin(animal, 0, 0), x.kin(0, animal, 0), x.inbred(animal, 0), x.chance(animal, 0), x.share(animal, 0, 0),
            x.share(0, animal, 0), x.left(animal, 1), x.like(animal, animal, 0), x.animal(animal, 4)};
        for (int k = 0; k < answers.length; k++) {
            CHECK.due("answer " + k + " of " + animal, answers[k] != NONE, want);
        }
    }

    private static void unknownAtFirst() {
        CHECK.sentence("Each has a MOTHER and a FATHER, or NONE (unknown), a SEX (0 unknown, ..), a DAY of birth"
            + " (unknown at first), and LIVES (at first).");
        Asked x = new Asked(24);
        for (int animal = 0; animal < 24; animal++) {
            checkAnimal(x, animal, NONE, NONE, 0, NONE, 1, 0);
        }
        Asked y = new Asked(2);
        CHECK.noFraction("no form is known", part -> y.like(0, 0, part));
        CHECK.rows("no ring", y::ring);
    }

    private static void promise2() {
        noneForUnknownOnes();
        inPlaceOfThoseItHad();
        noSuchAnimals();
        bothTheSameOne();
        notItsOwnForbear();
        noMaleMotherNoFemaleFather();
        notBornOnTheDayOrLater();
        whereBothDaysAreKnown();
        oneWrongParentRefusesBoth();
    }

    private static void noneForUnknownOnes() {
        CHECK.sentence("An animal's parents (NONE for unknown ones");
        Asked x = new Asked(3);
        CHECK.due("mother unknown", x.parents(0, NONE, 2), true);
        checkAnimal(x, 0, NONE, 2, 0, NONE, 1, 1);
        CHECK.due("father unknown", x.parents(0, 2, NONE), true);
        checkAnimal(x, 0, 2, NONE, 0, NONE, 1, 1);
        CHECK.due("both unknown", x.parents(0, NONE, NONE), true);
        checkAnimal(x, 0, NONE, NONE, 0, NONE, 1, 0);
        CHECK.due("animal 0 is a mother as any other", x.parents(2, 0, 1), true);
        checkAnimal(x, 2, 0, 1, 0, NONE, 1, 1);
        CHECK.due("animal 0 is a father as any other", x.parents(2, 1, 0), true);
        checkAnimal(x, 2, 1, 0, 0, NONE, 1, 1);
    }

    private static void inPlaceOfThoseItHad() {
        CHECK.sentence("in place of those it had)");
        Asked x = new Asked(4);
        x.parents(2, 0, 1);
        CHECK.due("the same once more", x.parents(2, 0, 1), true);
        CHECK.due("the other way round", x.parents(2, 1, 0), true);
        checkAnimal(x, 2, 1, 0, 0, NONE, 1, 1);
        CHECK.due("one of them is unknown now", x.parents(2, NONE, 0), true);
        CHECK.due("the former mother is none any more", x.isForbear(1, 2), false);
        CHECK.due("the former mother may be male", x.told(1, MALE, 50), true);
        CHECK.due("the child may be born before its former mother", x.told(2, FEMALE, 40), true);
        CHECK.due("the child may be a parent of its former mother", x.told(2, FEMALE, 49) && x.parents(1, 2, NONE), true);
        CHECK.due("the present father may not", x.parents(0, 2, NONE), false);
    }

    private static void noSuchAnimals() {
        CHECK.sentence("False when there are no such animals");
        for (int animals : new int[] {3, 24}) {
            Asked x = new Asked(animals);
            for (int other : new int[] {-2, -24, animals, animals + 1, 100, Integer.MIN_VALUE, Integer.MAX_VALUE}) {
                CHECK.due("child " + other, x.parents(other, 0, 1), false);
                CHECK.due("child " + other + " of unknown ones", x.parents(other, NONE, NONE), false);
                CHECK.due("mother " + other, x.parents(2, other, 1), false);
                CHECK.due("mother " + other + " alone", x.parents(2, other, NONE), false);
                CHECK.due("father " + other, x.parents(2, 0, other), false);
                CHECK.due("father " + other + " alone", x.parents(2, NONE, other), false);
                CHECK.due("both " + other, x.parents(2, other, other), false);
            }
            CHECK.due("NONE is no child", x.parents(NONE, 0, 1), false);
            CHECK.due("NONE is no child of unknown ones", x.parents(NONE, NONE, NONE), false);
            checkAnimal(x, 2, NONE, NONE, 0, NONE, 1, 0);
        }
    }

    private static void bothTheSameOne() {
        CHECK.sentence("both are the same one (and known)");
        Asked x = new Asked(24);
        for (int parent = 0; parent < 24; parent++) {
            CHECK.due("both are " + parent, x.parents(12, parent, parent), false);
            CHECK.due("no ring is told", x.ring(0), NONE);
        }
        checkAnimal(x, 12, NONE, NONE, 0, NONE, 1, 0);
        CHECK.due("both are unknown", x.parents(12, NONE, NONE), true);
    }

    private static void notItsOwnForbear() {
        CHECK.sentence("no animal is a forbear of its own");
        Asked x = new Asked(24);
        CHECK.due("its own mother", x.parents(0, 0, NONE), false);
        CHECK.due("its own father", x.parents(0, NONE, 0), false);
        for (int child = 1; child < 24; child++) {
            CHECK.due("a line of mothers", x.parents(child, child - 1, NONE), true);
            CHECK.due("its end as mother", x.parents(0, child, NONE), false);
            CHECK.due("its end as father", x.parents(0, NONE, child), false);
        }
        CHECK.due("the line may grow at its upper end", x.parents(0, NONE, NONE), true);
        CHECK.due("the line may be cut", x.parents(12, NONE, NONE), true);
        CHECK.due("and joined the other way", x.parents(0, 23, NONE), true);
        CHECK.due("but not to a ring", x.parents(12, 11, NONE), false);
    }

    private static void noMaleMotherNoFemaleFather() {
        CHECK.sentence("no mother is male, no father female");
        Asked x = new Asked(4);
        x.told(0, FEMALE, NONE);
        x.told(1, MALE, NONE);
        CHECK.due("a male mother", x.parents(3, 1, NONE), false);
        CHECK.due("a female father", x.parents(3, NONE, 0), false);
        CHECK.due("a female mother", x.parents(3, 0, NONE), true);
        CHECK.due("a male father", x.parents(3, NONE, 1), true);
        CHECK.due("a mother of unknown sex", x.parents(3, 2, 1), true);
        CHECK.due("a father of unknown sex", x.parents(3, 0, 2), true);
        CHECK.due("the child's own sex is not asked", x.told(3, MALE, NONE) && x.parents(3, 0, 1), true);
    }

    private static void notBornOnTheDayOrLater() {
        CHECK.sentence("no parent is born on the day of its child, or later");
        int[][] parentAndChild = {
            {0, 0, 0}, {0, 1, 1}, {1, 0, 0}, {49, 50, 1}, {50, 50, 0}, {51, 50, 0}, {0, LAST_DAY, 1},
            {LAST_DAY - 1, LAST_DAY, 1}, {LAST_DAY, LAST_DAY, 0}, {LAST_DAY, 0, 0}, {LAST_DAY, LAST_DAY - 1, 0}};
        for (int[] row : parentAndChild) {
            String days = " born on " + row[0] + ", its child on " + row[1];
            Asked x = new Asked(3);
            x.told(0, 0, row[0]);
            x.told(1, 0, row[1]);
            CHECK.due("mother" + days, x.parents(1, 0, NONE), row[2] == 1);
            CHECK.due("father" + days, x.parents(1, NONE, 0), row[2] == 1);
            CHECK.due("mother beside a father" + days, x.parents(1, 0, 2), row[2] == 1);
            CHECK.due("father beside a mother" + days, x.parents(1, 2, 0), row[2] == 1);
            CHECK.due("no ring is told", x.ring(0), NONE);
        }
    }

    private static void whereBothDaysAreKnown() {
        CHECK.sentence("(where both days are known)");
        Asked x = new Asked(3);
        x.told(0, 0, LAST_DAY);
        CHECK.due("child's day unknown, mother", x.parents(1, 0, NONE), true);
        CHECK.due("child's day unknown, father", x.parents(1, NONE, 0), true);
        x.parents(1, NONE, NONE);
        x.told(1, 0, 0);
        x.told(0, 0, NONE);
        CHECK.due("mother's day unknown", x.parents(1, 0, NONE), true);
        CHECK.due("father's day unknown", x.parents(1, NONE, 0), true);
        CHECK.due("a known day beside an unknown one", x.told(2, 0, 0) && x.parents(1, 0, 2), false);
        CHECK.due("a grandparent's day is not asked", x.told(2, 0, LAST_DAY) && x.parents(0, 2, NONE), true);
    }

    private static void oneWrongParentRefusesBoth() {
        CHECK.sentence("or the pedigree would not be right.");
        int[][] refused = {{4, 0, 3}, {4, 2, 1}, {4, 2, 4}, {4, 4, 3}, {4, 5, 3}, {4, 2, 5}, {4, 6, 3}, {4, 2, 6}, {4, 7, 3}, {4, 2, 7}};
        for (int[] row : refused) {
            Asked x = new Asked(7);
            x.told(0, MALE, NONE);
            x.told(1, FEMALE, NONE);
            x.parents(5, 4, NONE);
            x.told(4, 0, 10);
            x.told(6, 0, 10);
            CHECK.due("parents(4, " + row[1] + ", " + row[2] + ")", x.parents(row[0], row[1], row[2]), false);
            checkAnimal(x, 4, NONE, NONE, 0, 10, 1, 0);
            CHECK.due("with two that are right", x.parents(4, 2, 3), true);
        }
    }

    private static void promise3() {
        rowByRow();
        shortestAndLongestRing();
        thoseThatWereToBeItsParents();
        motherFirst();
        otherwiseTheFather();
        noneBeyond();
        notRefusedForARing();
        lookedForAfterAllElse();
        latestParentsAlone();
    }

    private static void rowByRow() {
        CHECK.sentence("The ring that the latest parents() was refused for, row by row: the child, .. up to the child again.");
        Asked x = new Asked(5);
        x.parents(1, 0, NONE);
        x.parents(2, NONE, 1);
        x.parents(3, 4, 2);
        CHECK.due("refused", x.parents(0, NONE, 3), false);
        CHECK.rows("ring", x::ring, 0, 3, 2, 1, 0);
        CHECK.due("asked again in another order", x.ring(3), 1);
        CHECK.due("asked again", x.ring(1), 3);
        CHECK.due("refused from the middle", x.parents(1, 3, NONE), false);
        CHECK.rows("ring", x::ring, 1, 3, 2, 1);
    }

    private static void shortestAndLongestRing() {
        CHECK.sentence("the child, then from one to a parent of it .. up to the child again");
        for (int animals = 1; animals <= 24; animals++) {
            Asked x = new Asked(animals);
            int[] want = new int[animals + 1];
            for (int child = 1; child < animals; child++) {
                x.parents(child, child % 3 == 0 ? NONE : child - 1, child % 3 == 0 ? child - 1 : NONE);
                want[animals - child] = child;
            }
            x.parents(0, animals - 1, NONE);
            CHECK.rows("ring of " + animals, x::ring, want);
        }
    }

    private static void thoseThatWereToBeItsParents() {
        CHECK.sentence("(as told: of the child those that were to be its parents)");
        Asked x = new Asked(6);
        x.parents(0, 4, 5);
        x.parents(1, 0, NONE);
        x.parents(2, NONE, 1);
        CHECK.due("refused", x.parents(0, NONE, 2), false);
        CHECK.rows("not by the mother that it has", x::ring, 0, 2, 1, 0);
        CHECK.due("refused", x.parents(0, 3, 1), false);
        CHECK.rows("not by the father that it has", x::ring, 0, 1, 0);
        checkAnimal(x, 0, 4, 5, 0, NONE, 1, 1);
    }

    private static void motherFirst() {
        CHECK.sentence("the mother if the child is the mother or a forbear of her");
        Asked x = new Asked(6);
        x.parents(1, 0, NONE);
        x.parents(2, NONE, 0);
        x.parents(3, 1, 2);
        x.parents(4, 3, 0);
        x.parents(0, 1, 2);
        CHECK.rows("both would close it", x::ring, 0, 1, 0);
        x.parents(0, 2, 1);
        CHECK.rows("both would close it, the other way round", x::ring, 0, 2, 0);
        x.parents(0, 3, 0);
        CHECK.rows("by the mother, though the father is the child", x::ring, 0, 3, 1, 0);
        x.parents(0, 0, 3);
        CHECK.rows("the child is its mother", x::ring, 0, 0);
        x.parents(0, 4, 2);
        CHECK.rows("within by the mother, though the father is the child", x::ring, 0, 4, 3, 1, 0);
    }

    private static void otherwiseTheFather() {
        CHECK.sentence("otherwise the father");
        Asked x = new Asked(6);
        x.parents(1, 5, 0);
        x.parents(2, 5, 1);
        x.parents(3, 1, 2);
        x.parents(0, 5, 2);
        CHECK.rows("by fathers alone", x::ring, 0, 2, 1, 0);
        x.parents(0, NONE, 0);
        CHECK.rows("the child is its father", x::ring, 0, 0);
        x.parents(2, 4, 3);
        CHECK.rows("within by the father, as the mother does not lead there", x::ring, 2, 3, 2);
        x.parents(1, NONE, 3);
        CHECK.rows("the mother is the child", x::ring, 1, 3, 1);
    }

    private static void noneBeyond() {
        CHECK.sentence("NONE beyond");
        Asked x = new Asked(24);
        x.parents(0, 0, NONE);
        for (int k = 2; k < 60; k++) {
            CHECK.due("ring(" + k + ")", x.ring(k), NONE);
        }
        for (int k : new int[] {-1, -2, -24, -25, Integer.MIN_VALUE, Integer.MAX_VALUE}) {
            CHECK.due("ring(" + k + ")", x.ring(k), NONE);
        }
        x.parents(1, 0, NONE);
        x.parents(2, 1, NONE);
        x.parents(0, 2, NONE);
        CHECK.rows("a longer one", x::ring, 0, 2, 1, 0);
        x.parents(0, 1, NONE);
        CHECK.rows("no rows of the longer one stay", x::ring, 0, 1, 0);
    }

    private static void notRefusedForARing() {
        CHECK.sentence("or when the latest parents() was not refused for a ring.");
        int[][] others = {
            {3, NONE, NONE}, {3, 4, NONE}, {1, 0, NONE}, {5, 0, 1}, {NONE, 0, 1}, {3, 5, 1}, {3, 0, -2}, {3, 1, 1},
            {3, 2, NONE}, {4, NONE, 1}};
        for (int[] row : others) {
            Asked x = new Asked(5);
            x.parents(1, 0, NONE);
            x.told(2, MALE, NONE);
            x.told(1, 0, 7);
            x.told(4, 0, 7);
            x.parents(0, 1, NONE);
            CHECK.due("ring before", x.ring(0), 0);
            x.parents(row[0], row[1], row[2]);
            CHECK.rows("ring after parents(" + row[0] + ", " + row[1] + ", " + row[2] + ")", x::ring);
        }
    }

    private static void lookedForAfterAllElse() {
        CHECK.sentence("(Looked for when all else that refuses is not so, but sexes and days.)");
        int[][] noRing = {{0, 1, 9}, {0, 9, 1}, {0, 1, -2}, {0, 1, 1}, {0, 0, 0}, {9, 9, NONE}, {NONE, NONE, 1}};
        for (int[] row : noRing) {
            Asked x = lineOfThree();
            CHECK.due("refused", x.parents(row[0], row[1], row[2]), false);
            CHECK.rows("no ring of parents(" + row[0] + ", " + row[1] + ", " + row[2] + ")", x::ring);
        }
        Asked x = lineOfThree();
        x.told(3, MALE, 50);
        x.told(2, MALE, 30);
        x.told(0, FEMALE, 10);
        CHECK.due("a ring by a male mother", x.parents(0, 2, NONE), false);
        CHECK.rows("ring", x::ring, 0, 2, 1, 0);
        CHECK.due("a ring beside a mother that is male and born later", x.parents(0, 3, 1), false);
        CHECK.rows("ring", x::ring, 0, 1, 0);
        CHECK.due("its own mother, a male", x.parents(2, 2, NONE), false);
        CHECK.rows("ring", x::ring, 2, 2);
        CHECK.due("its own father, a female", x.parents(0, NONE, 0), false);
        CHECK.rows("ring", x::ring, 0, 0);
    }

    /** 0 is the mother of 1, and 1 that of 2; 3 stands alone. */
    private static Asked lineOfThree() {
        Asked x = new Asked(4);
        x.parents(1, 0, NONE);
        x.parents(2, 1, NONE);
        return x;
    }

    private static void latestParentsAlone() {
        CHECK.sentence("the latest parents()");
        Asked x = lineOfThree();
        x.parents(0, 2, NONE);
        CHECK.due("taken", x.told(3, 1, 1) && x.lives(3, false) && x.mark(3, 3, 2), true);
        CHECK.due("refused", x.told(4, 1, 1) || x.told(0, 2, 1) || x.lives(4, true) || x.mark(4, 0, 0), false);
        CHECK.rows("ring", x::ring, 0, 2, 1, 0);
        x.parents(1, 2, NONE);
        CHECK.rows("a later ring", x::ring, 1, 2, 1);
    }

    private static void promise4() {
        sexesAndDaysFromFirstToLast();
        noneSuchOrOthers();
        toldAgainstSexes();
        toldAgainstDays();
        toldOfTheFirstAndTheLast();
        toldWholeOrNotAtAll();
    }

    private static void sexesAndDaysFromFirstToLast() {
        CHECK.sentence("Sex (0 .. 2) and day of birth (0 .. 99999, or NONE for unknown) of an animal.");
        Asked x = new Asked(2);
        for (int sex = 0; sex <= 2; sex++) {
            for (int day : new int[] {0, 1, LAST_DAY - 1, LAST_DAY, NONE}) {
                CHECK.due("told(1, " + sex + ", " + day + ")", x.told(1, sex, day), true);
                checkAnimal(x, 1, NONE, NONE, sex, day, 1, 0);
            }
        }
        checkAnimal(x, 0, NONE, NONE, 0, NONE, 1, 0);
    }

    private static void noneSuchOrOthers() {
        CHECK.sentence("False when there is none such, or they are others");
        Asked x = new Asked(3);
        x.told(1, FEMALE, 5);
        for (int other : new int[] {NONE, -2, 3, 24, Integer.MIN_VALUE, Integer.MAX_VALUE}) {
            CHECK.due("animal " + other, x.told(other, 1, 1), false);
            CHECK.due("animal " + other + " unknown", x.told(other, 0, NONE), false);
        }
        for (int sex : new int[] {NONE, -2, 3, 4, Integer.MIN_VALUE, Integer.MAX_VALUE}) {
            CHECK.due("sex " + sex, x.told(1, sex, 1), false);
            CHECK.due("sex " + sex + " without a day", x.told(1, sex, NONE), false);
        }
        for (int day : new int[] {-2, -3, LAST_DAY + 1, LAST_DAY + 2, Integer.MIN_VALUE, Integer.MAX_VALUE}) {
            CHECK.due("day " + day, x.told(1, 2, day), false);
            CHECK.due("day " + day + " of an unknown sex", x.told(1, 0, day), false);
        }
        checkAnimal(x, 1, NONE, NONE, FEMALE, 5, 1, 0);
    }

    private static void toldAgainstSexes() {
        CHECK.sentence("or the pedigree would not be right. (no mother is male, no father female)");
        Asked x = new Asked(4);
        x.parents(3, 0, 1);
        CHECK.due("a mother as male", x.told(0, MALE, NONE), false);
        CHECK.due("a father as female", x.told(1, FEMALE, NONE), false);
        CHECK.due("a mother as female", x.told(0, FEMALE, NONE), true);
        CHECK.due("a father as male", x.told(1, MALE, NONE), true);
        CHECK.due("a mother as male, from female", x.told(0, MALE, NONE), false);
        CHECK.due("a mother as unknown", x.told(0, 0, NONE), true);
        CHECK.due("a child as either", x.told(3, MALE, NONE) && x.told(3, FEMALE, NONE), true);
        CHECK.due("no parent as either", x.told(2, MALE, NONE) && x.told(2, FEMALE, NONE), true);
        x.parents(3, NONE, NONE);
        CHECK.due("no mother any more", x.told(0, MALE, NONE), true);
        CHECK.due("no father any more", x.told(1, FEMALE, NONE), true);
    }

    private static void toldAgainstDays() {
        CHECK.sentence("or the pedigree would not be right. (no parent is born on the day of its child, or later)");
        for (boolean byMother : new boolean[] {true, false}) {
            Asked x = new Asked(3);
            x.parents(1, byMother ? 0 : NONE, byMother ? NONE : 0);
            x.parents(2, byMother ? NONE : 1, byMother ? 1 : NONE);
            CHECK.due("a child's day, its parent's unknown", x.told(1, 0, 50), true);
            CHECK.due("a parent on the day", x.told(0, 0, 50), false);
            CHECK.due("a parent later", x.told(0, 0, 51), false);
            CHECK.due("a parent on the last day", x.told(0, 0, LAST_DAY), false);
            CHECK.due("a parent a day before", x.told(0, 0, 49), true);
            CHECK.due("a child on the day", x.told(1, 0, 49), false);
            CHECK.due("a child before", x.told(1, 0, 48), false);
            CHECK.due("a child on the first day", x.told(1, 0, 0), false);
            CHECK.due("a parent on the first day", x.told(0, 0, 0), true);
            CHECK.due("a child on the first day too", x.told(1, 0, 0), false);
            CHECK.due("a child a day after the first", x.told(1, 0, 1), true);
            CHECK.due("a grandchild on its parent's day", x.told(2, 0, 1), false);
            CHECK.due("a grandchild on the last day", x.told(2, 0, LAST_DAY), true);
            CHECK.due("its parent on the last day", x.told(1, 0, LAST_DAY), false);
            CHECK.due("its parent a day before the last", x.told(1, 0, LAST_DAY - 1), true);
            CHECK.due("unknown between the two", x.told(1, 0, NONE), true);
            CHECK.due("then these are not asked of each other", x.told(0, 0, LAST_DAY), true);
        }
    }

    private static void toldOfTheFirstAndTheLast() {
        CHECK.sentence("or the pedigree would not be right. (of the first animal and the last one)");
        for (int child : new int[] {0, 23}) {
            int parent = 23 - child;
            Asked x = new Asked(24);
            x.parents(child, parent, NONE);
            x.told(parent, FEMALE, 10);
            CHECK.due("child " + child + " on the day", x.told(child, 0, 10), false);
            CHECK.due("child " + child + " a day after", x.told(child, 0, 11), true);
            CHECK.due("mother " + parent + " as male", x.told(parent, MALE, 10), false);
            CHECK.due("mother " + parent + " on the day", x.told(parent, FEMALE, 11), false);
            x.parents(child, NONE, NONE);
            x.told(parent, MALE, 10);
            x.parents(child, NONE, parent);
            CHECK.due("father " + parent + " as female", x.told(parent, FEMALE, 10), false);
            CHECK.due("father " + parent + " on the day", x.told(parent, MALE, 11), false);
        }
    }

    private static void toldWholeOrNotAtAll() {
        CHECK.sentence("What is refused changes nothing. (told)");
        Asked x = new Asked(3);
        x.parents(1, 0, NONE);
        x.told(0, 0, 5);
        x.told(1, 0, 10);
        CHECK.due("right sex, wrong day", x.told(0, FEMALE, 10), false);
        CHECK.due("wrong sex, right day", x.told(0, MALE, 6), false);
        CHECK.due("right sex, no day at all", x.told(0, FEMALE, LAST_DAY + 1), false);
        CHECK.due("no sex at all, right day", x.told(0, 3, 6), false);
        checkAnimal(x, 0, NONE, NONE, 0, 5, 1, 0);
        checkAnimal(x, 1, 0, NONE, 0, 10, 1, 1);
    }

    private static void promise5() {
        CHECK.sentence("Whether an animal lives from now on. False when there is none such.");
        Asked x = new Asked(3);
        for (int other : new int[] {NONE, -2, 3, 24, Integer.MIN_VALUE, Integer.MAX_VALUE}) {
            CHECK.due("lives(" + other + ", false)", x.lives(other, false), false);
            CHECK.due("lives(" + other + ", true)", x.lives(other, true), false);
        }
        for (int animal = 0; animal < 3; animal++) {
            CHECK.due("still lives", x.animal(animal, 4), 1);
            CHECK.due("lives on", x.lives(animal, true), true);
            CHECK.due("dies", x.lives(animal, false), true);
            CHECK.due("is dead", x.animal(animal, 4), 0);
        }
        CHECK.due("may be a parent when dead", x.parents(2, 0, 1), true);
        CHECK.due("lives again", x.lives(2, true), true);
        CHECK.due("lives", x.animal(2, 4), 1);
        CHECK.due("others stay dead", x.animal(1, 4), 0);
    }

    private static void promise10() {
        CHECK.sentence("Whether an animal is a forbear of another one; false when there are none such.");
        Asked line = new Asked(24);
        for (int child = 1; child < 24; child++) {
            line.parents(child, child % 2 == 0 ? child - 1 : NONE, child % 2 == 0 ? NONE : child - 1);
        }
        for (int animal = 0; animal < 24; animal++) {
            CHECK.due("none of its own", line.isForbear(animal, animal), false);
            CHECK.due("the first, of all others", line.isForbear(0, animal), animal > 0);
            CHECK.due("the last, of none", line.isForbear(23, animal), false);
            CHECK.due("all others, of the last", line.isForbear(animal, 23), animal < 23);
        }
        for (int other : new int[] {NONE, -2, 24, 25, 31, 32, 33, 64, Integer.MIN_VALUE, Integer.MAX_VALUE}) {
            CHECK.due("isForbear(" + other + ", 23)", line.isForbear(other, 23), false);
            CHECK.due("isForbear(0, " + other + ")", line.isForbear(0, other), false);
            CHECK.due("isForbear of itself " + other, line.isForbear(other, other), false);
        }
        Asked three = new Asked(3);
        three.parents(2, 0, NONE);
        CHECK.due("an unknown one is no forbear", three.isForbear(NONE, 2), false);
        CHECK.due("a mate is no forbear", three.isForbear(1, 2), false);
    }

    private static void promise11() {
        byTheGreatestNumberOfSteps();
        ofAsManyByTheNumber();
        orderNoneWhenThereIsNone();
    }

    private static void byTheGreatestNumberOfSteps() {
        CHECK.sentence("The k-th animal in ORDER: by the greatest number of steps up to a founder");
        Asked x = new Asked(5);
        x.parents(3, 4, NONE);
        x.parents(2, NONE, 3);
        x.parents(0, 2, 1);
        CHECK.rows("the longer line is the mother's", x::order, 1, 4, 3, 2, 0);
        CHECK.due("steps", x.animal(0, 5), 3);
        x.parents(0, 1, 2);
        CHECK.due("the longer line is the father's", x.animal(0, 5), 3);
        x.parents(0, 4, 2);
        CHECK.due("both lines end at one founder", x.animal(0, 5), 3);
        x.parents(3, NONE, NONE);
        CHECK.due("a step less for all below", x.animal(0, 5), 2);
        CHECK.rows("order", x::order, 1, 3, 4, 2, 0);
        Asked line = new Asked(24);
        for (int child = 22; child >= 0; child--) {
            line.parents(child, NONE, child + 1);
        }
        for (int animal = 0; animal < 24; animal++) {
            CHECK.due("steps in the longest line", line.animal(animal, 5), 23 - animal);
            CHECK.due("order in the longest line", line.order(animal), 23 - animal);
        }
    }

    private static void ofAsManyByTheNumber() {
        CHECK.sentence("of as many by the number");
        Asked x = new Asked(24);
        for (int k = 0; k < 24; k++) {
            CHECK.due("founders alone", x.order(k), k);
        }
        for (int child = 0; child < 12; child++) {
            x.parents(11 - child, 12 + child, NONE);
        }
        for (int k = 0; k < 24; k++) {
            CHECK.due("children of lesser numbers", x.order(k), k < 12 ? 12 + k : k - 12);
        }
    }

    private static void orderNoneWhenThereIsNone() {
        CHECK.sentence("NONE when there is none. (order)");
        for (int animals : new int[] {1, 2, 23, 24}) {
            Asked x = new Asked(animals);
            for (int k : new int[] {animals, animals + 1, 24, 25, -1, -2, Integer.MIN_VALUE, Integer.MAX_VALUE}) {
                CHECK.due("order(" + k + ") of " + animals, x.order(k), NONE);
            }
            CHECK.due("the first of " + animals, x.order(0), 0);
            CHECK.due("the last of " + animals, x.order(animals - 1), animals - 1);
        }
    }

    private static void promise18() {
        CHECK.sentence("what = 0 its mother, 1 its father, 2 its sex, 3 its day, 4 1 when it lives, otherwise 0, 5 its steps");
        Asked x = new Asked(3);
        x.parents(2, 1, 0);
        x.told(2, MALE, 0);
        x.lives(2, false);
        checkAnimal(x, 2, 1, 0, MALE, 0, 0, 1);
        CHECK.sentence("NONE when there is none such, or unknown, or for others.");
        x.parents(2, NONE, NONE);
        x.told(2, MALE, NONE);
        checkAnimal(x, 2, NONE, NONE, MALE, NONE, 0, 0);
        for (int what = -1; what < 7; what++) {
            for (int other : new int[] {NONE, -2, 3, 24, Integer.MIN_VALUE, Integer.MAX_VALUE}) {
                CHECK.due("animal(" + other + ", " + what + ")", x.animal(other, what), NONE);
            }
        }
        CHECK.sentence("a SEX (0 unknown, 1 female, 2 male)");
        x.told(2, 0, 1);
        checkAnimal(x, 2, NONE, NONE, 0, 1, 0, 0);
    }

    /** Mother, father, sex, day, lives and steps; NONE for what is asked besides. */
    private static void checkAnimal(Asked x, int animal, int... want) {
        for (int what = 0; what < want.length; what++) {
            CHECK.due("animal(" + animal + ", " + what + ")", x.animal(animal, what), want[what]);
        }
        for (int what : new int[] {-1, 6, Integer.MIN_VALUE, Integer.MAX_VALUE}) {
            CHECK.due("animal(" + animal + ", " + what + ")", x.animal(animal, what), NONE);
        }
    }
}
