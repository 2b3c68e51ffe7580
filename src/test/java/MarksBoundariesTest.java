/** Each sentence on promises 12 to 15 that names a boundary, with a test of its own. */
public final class MarksBoundariesTest {
    private static final int NONE = KinNumbers.NONE;
    private static final int MARKS = 4;
    private static final int FEMALE = 1;
    private static final int MALE = 2;
    private static final Check CHECK = new Check();

    public static void main(String[] args) {
        promise12();
        promise13();
        promise14();
        promise15();
        CHECK.end();
    }

    private static int[] noSuch(int animals) {
        return new int[] {NONE, -2, animals, animals + 1, 25, Integer.MIN_VALUE, Integer.MAX_VALUE};
    }

    private static void promise12() {
        formsFromFirstToLast();
        marksFromFirstToLast();
        noSuchAnimalMarkOrForm();
    }

    private static void formsFromFirstToLast() {
        CHECK.sentence("The form of a mark (0 .. 2, NONE unknown).");
        for (int animal : new int[] {0, 1, 22, 23}) {
            Asked x = new Asked(24);
            int other = 23 - animal;
            for (int form : new int[] {0, 1, 2, NONE, 2, 1, 0}) {
                x.mark(other, 0, 0);
                CHECK.due("mark(" + animal + ", 0, " + form + ")", x.mark(animal, 0, form), true);
                if (form == NONE) {
                    CHECK.noFraction("unknown", part -> x.like(animal, other, part));
                } else {
                    int above = form == 2 ? 0 : 1;
                    int below = form == 1 ? 2 : 1;
                    CHECK.fraction("form " + form, part -> x.like(animal, other, part), above, below);
                }
            }
        }
    }

    private static void marksFromFirstToLast() {
        CHECK.sentence("MARKS 0 .. 3: of each, an animal has a FORM");
        for (int mark = 0; mark < MARKS; mark++) {
            for (int animal : new int[] {0, 1, 22}) {
                Asked x = new Asked(24);
                CHECK.due("mark(" + animal + ", " + mark + ", 2)", x.mark(animal, mark, 2), true);
                CHECK.fraction("it has one", part -> x.like(animal, animal, part), 1, 1);
                CHECK.noFraction("the next has none", part -> x.like(animal + 1, animal + 1, part));
                for (int another = 0; another < MARKS; another++) {
                    x.mark(animal + 1, another, 0);
                    x.mark(animal, another, another == mark ? 2 : NONE);
                }
                CHECK.fraction("by this mark alone", part -> x.like(animal, animal + 1, part), 0, 1);
                x.mark(animal + 1, mark, NONE);
                CHECK.noFraction("by no other mark", part -> x.like(animal, animal + 1, part));
            }
        }
    }

    private static void noSuchAnimalMarkOrForm() {
        CHECK.sentence("False when there is no such animal or mark, or form is another.");
        for (int animals : new int[] {1, 3, 24}) {
            Asked x = new Asked(animals);
            for (int other : noSuch(animals)) {
                CHECK.due("animal " + other, x.mark(other, 0, 1), false);
                CHECK.due("animal " + other + ", the last mark", x.mark(other, 3, NONE), false);
            }
            for (int mark : new int[] {-1, -2, 4, 5, Integer.MIN_VALUE, Integer.MAX_VALUE}) {
                CHECK.due("mark " + mark + " of the first", x.mark(0, mark, 1), false);
                CHECK.due("mark " + mark + " of the last", x.mark(animals - 1, mark, 1), false);
            }
            for (int form : new int[] {-2, -3, 3, 4, Integer.MIN_VALUE, Integer.MAX_VALUE}) {
                CHECK.due("form " + form, x.mark(0, 0, form), false);
            }
            for (int k = 0; k < animals; k++) {
                int animal = k;
                CHECK.noFraction("no form was taken", part -> x.like(animal, animal, part));
            }
        }
    }

    private static void promise13() {
        leftOutByForms();
        leftOutByAnyMark();
        leftOfAllAndOfNone();
        leftBySex();
        leftAsksNothingElse();
        leftNone();
    }

    private static void leftOutByForms() {
        CHECK.sentence("A parent is LEFT OUT for a child when they have 0 and 2 (or 2 and 0) of a mark.");
        for (int child = NONE; child <= 2; child++) {
            for (int parent = NONE; parent <= 2; parent++) {
                Asked x = new Asked(2);
                x.mark(0, 2, child);
                x.mark(1, 2, parent);
                int want = child == 0 && parent == 2 || child == 2 && parent == 0 ? 0 : 1;
                CHECK.due("left of forms " + child + ", " + parent, x.left(0, FEMALE), want);
                CHECK.due("left of forms " + parent + ", " + child, x.left(1, MALE), want);
            }
        }
    }

    private static void leftOutByAnyMark() {
        CHECK.sentence("of a mark");
        for (int mark = 0; mark < MARKS; mark++) {
            Asked x = new Asked(2);
            for (int another = 0; another < MARKS; another++) {
                x.mark(0, another, 1);
                x.mark(1, another, 1);
            }
            CHECK.due("alike in all marks", x.left(0, FEMALE), 1);
            x.mark(0, mark, 0);
            x.mark(1, mark, 2);
            CHECK.due("left out by mark " + mark, x.left(0, FEMALE), 0);
            x.mark(1, (mark + 1) % MARKS, 2);
            x.mark(0, (mark + 1) % MARKS, 0);
            CHECK.due("left out by two marks", x.left(0, FEMALE), 0);
            x.mark(1, mark, NONE);
            x.mark(0, (mark + 1) % MARKS, NONE);
            CHECK.due("not left out by unknown forms", x.left(0, FEMALE), 1);
            x.mark(0, mark, 0);
            x.mark(1, (mark + 1) % MARKS, 2);
            CHECK.due("nor by 0 and 2 of different marks", x.left(0, FEMALE), 1);
        }
    }

    private static void leftOfAllAndOfNone() {
        CHECK.sentence("How many animals (other than it, ..) are not LEFT OUT");
        for (int animals : new int[] {1, 2, 23, 24}) {
            Asked x = new Asked(animals);
            CHECK.due("all others of " + animals, x.left(0, FEMALE), animals - 1);
            CHECK.due("all others of " + animals + ", for the last", x.left(animals - 1, MALE), animals - 1);
            for (int animal = 1; animal < animals; animal++) {
                x.mark(animal, 0, 2);
            }
            x.mark(0, 0, 0);
            CHECK.due("none of " + animals, x.left(0, FEMALE), 0);
            CHECK.due("none of " + animals, x.left(0, MALE), 0);
            x.mark(0, 0, 1);
            CHECK.due("all others again", x.left(0, MALE), animals - 1);
        }
    }

    private static void leftBySex() {
        CHECK.sentence("as a mother (sex 1: not male), or as a father (2: not female), of a child");
        Asked x = new Asked(6);
        CHECK.due("mothers, all sexes unknown", x.left(0, FEMALE), 5);
        CHECK.due("fathers, all sexes unknown", x.left(0, MALE), 5);
        x.told(1, MALE, NONE);
        x.told(2, FEMALE, NONE);
        x.told(3, FEMALE, NONE);
        CHECK.due("mothers", x.left(0, FEMALE), 4);
        CHECK.due("fathers", x.left(0, MALE), 3);
        x.told(0, MALE, NONE);
        CHECK.due("mothers, the child's own sex is not asked", x.left(0, FEMALE), 4);
        CHECK.due("fathers, the child's own sex is not asked", x.left(0, MALE), 3);
        x.told(4, MALE, NONE);
        x.told(5, MALE, NONE);
        CHECK.due("mothers of a male", x.left(1, FEMALE), 2);
        CHECK.due("fathers of a female", x.left(2, MALE), 4);
    }

    private static void leftAsksNothingElse() {
        CHECK.sentence("(.., no forbears asked)");
        Asked x = new Asked(4);
        x.parents(1, 0, NONE);
        x.parents(2, 1, NONE);
        CHECK.due("a child's child may be its mother here", x.left(0, FEMALE), 3);
        CHECK.due("or its father", x.left(0, MALE), 3);
        CHECK.due("its mother may be its father", x.left(1, MALE), 3);
    }

    private static void leftNone() {
        CHECK.sentence("NONE when there is none such, or for others. (left)");
        for (int animals : new int[] {1, 3, 24}) {
            Asked x = new Asked(animals);
            for (int other : noSuch(animals)) {
                CHECK.due("left(" + other + ", 1)", x.left(other, FEMALE), NONE);
                CHECK.due("left(" + other + ", 2)", x.left(other, MALE), NONE);
                CHECK.due("left(" + other + ", 0)", x.left(other, 0), NONE);
            }
            for (int sex : new int[] {0, 3, 4, -1, -2, Integer.MIN_VALUE, Integer.MAX_VALUE}) {
                CHECK.due("left(0, " + sex + ")", x.left(0, sex), NONE);
            }
        }
    }

    private static void promise14() {
        oddsOfTwoAlone();
        oddsWithNoMarkOfBoth();
        oddsAllOneLetter();
        oddsOfKnownFormsAlone();
        oddsWhenLeftOut();
        oddsBeyondInts();
        oddsNone();
    }

    private static void oddsOfTwoAlone() {
        CHECK.sentence("of P / Q, with p of all 2 n letters of the n animals whose form of the mark is known being B (n = 2)");
        long[][][] want = {{{1, 1}, {2, 3}, {0, 1}}, {{2, 3}, {1, 1}, {2, 3}}, {{0, 1}, {2, 3}, {1, 1}}};
        for (int mark = 0; mark < MARKS; mark++) {
            for (int child = 0; child <= 2; child++) {
                for (int parent = 0; parent <= 2; parent++) {
                    Asked x = new Asked(2);
                    x.mark(0, mark, child);
                    x.mark(1, mark, parent);
                    checkOdds("odds of forms " + child + ", " + parent, x, want[child][parent][0], want[child][parent][1]);
                }
            }
        }
    }

    private static void oddsWithNoMarkOfBoth() {
        CHECK.sentence("the product, over all marks with forms of both known");
        Asked x = new Asked(3);
        checkOdds("no form known", x, 1, 1);
        x.mark(0, 0, 0);
        x.mark(1, 1, 2);
        x.mark(2, 0, 2);
        x.mark(2, 1, 0);
        checkOdds("no mark of both", x, 1, 1);
        x.mark(1, 0, 1);
        checkOdds("one mark of both", x, 1, 1);
        x.mark(2, 0, 0);
        checkOdds("one mark of both, fewer B", x, 3, 5);
        x.mark(0, 1, 2);
        checkOdds("two marks of both", x, 9, 10);
        x.mark(1, 1, NONE);
        checkOdds("one mark again", x, 3, 5);
    }

    private static void oddsAllOneLetter() {
        CHECK.sentence("Q .. (1 - x)^2, .. x^2 for 0, .. 2 (x = 0, and x = 1)");
        for (int form : new int[] {0, 2}) {
            for (int animals : new int[] {2, 24}) {
                Asked x = new Asked(animals);
                for (int mark = 0; mark < MARKS; mark++) {
                    for (int animal = 0; animal < animals; animal++) {
                        x.mark(animal, mark, form);
                    }
                }
                checkOdds("all letters the same", x, 1, 1);
            }
        }
    }

    private static void oddsOfKnownFormsAlone() {
        CHECK.sentence("all 2 n letters of the n animals whose form of the mark is known");
        Asked x = new Asked(24);
        x.mark(0, 3, 2);
        x.mark(1, 3, 2);
        checkOdds("unknown ones are not counted", x, 1, 1);
        for (int animal = 2; animal < 24; animal++) {
            x.mark(animal, 3, 0);
        }
        checkOdds("all are counted", x, 12, 1);
        x.lives(23, false);
        x.told(22, MALE, 5);
        x.parents(20, 1, 22);
        checkOdds("the dead too, whatever their sex and kin", x, 12, 1);
        x.mark(23, 3, NONE);
        checkOdds("one form less", x, 23, 2);
        x.mark(22, 2, 1);
        checkOdds("another mark does not count", x, 23, 2);
    }

    private static void oddsWhenLeftOut() {
        CHECK.sentence("ODDS of an animal as a parent of a child (0 when it is left out)");
        for (int mark = 0; mark < MARKS; mark++) {
            for (int form : new int[] {0, 2}) {
                Asked x = new Asked(5);
                for (int another = 0; another < MARKS; another++) {
                    x.mark(0, another, 1);
                    x.mark(1, another, 1);
                }
                checkOdds("not left out", x, 1, 1);
                x.mark(0, mark, form);
                x.mark(1, mark, 2 - form);
                checkOdds("left out by mark " + mark, x, 0, 1);
            }
        }
    }

    /** Of 46 letters 22, 21, 19 and 17 are B: 46 * 46 / (4 a b) each, which nothing makes less. */
    private static void oddsBeyondInts() {
        CHECK.sentence("the product, over all marks (greater than an int can hold)");
        int[] lettersB = {22, 21, 19, 17};
        Asked x = new Asked(24);
        long below = 1;
        for (int mark = 0; mark < MARKS; mark++) {
            x.mark(0, mark, 1);
            x.mark(1, mark, 1);
            int rest = lettersB[mark] - 2;
            for (int animal = 2; animal < 23; animal++) {
                int form = Math.min(2, rest);
                x.mark(animal, mark, form);
                rest -= form;
            }
            below *= (long) lettersB[mark] * (46 - lettersB[mark]);
        }
        checkOdds("23 forms of four marks", x, 529L * 529 * 529 * 529, below);
    }

    private static void oddsNone() {
        CHECK.sentence("NONE when there are none such, both are one, or for other parts. (odds)");
        for (int animals : new int[] {1, 3, 24}) {
            for (int other : noSuch(animals)) {
                Asked x = new Asked(animals);
                x.mark(0, 0, 1);
                CHECK.noFraction("odds(" + other + ", 0)", part -> x.odds(other, 0, part));
                CHECK.noFraction("odds(0, " + other + ")", part -> x.odds(0, other, part));
                CHECK.noFraction("odds(" + other + ", itself)", part -> x.odds(other, other, part));
            }
            Asked x = new Asked(animals);
            CHECK.noFraction("both are the first", part -> x.odds(0, 0, part));
            CHECK.noFraction("both are the last", part -> x.odds(animals - 1, animals - 1, part));
        }
    }

    private static void promise15() {
        likeFromNoneToAll();
        likeOfMarksOfBoth();
        likeNone();
    }

    private static void likeFromNoneToAll() {
        CHECK.sentence("of all marks with forms of both known, 2 less the difference of the forms each, over twice the number");
        for (int marks = 1; marks <= MARKS; marks++) {
            Asked x = new Asked(2);
            for (int mark = 0; mark < marks; mark++) {
                x.mark(0, mark, 0);
                x.mark(1, mark, 2);
            }
            checkLike("unlike in all of " + marks, x, 0, 1);
            x.mark(1, 0, 1);
            checkLike("half alike in one of " + marks, x, 1, 2L * marks);
            x.mark(1, 0, 0);
            checkLike("alike in one of " + marks, x, 1, marks);
            for (int mark = 0; mark < marks; mark++) {
                x.mark(0, mark, 2);
                x.mark(1, mark, 2);
            }
            checkLike("alike in all of " + marks, x, 1, 1);
            x.mark(0, 0, 1);
            checkLike("half alike in one, alike in the others", x, 2L * marks - 1, 2L * marks);
        }
    }

    private static void likeOfMarksOfBoth() {
        CHECK.sentence("no mark is known of both");
        for (int mark = 0; mark < MARKS; mark++) {
            Asked x = new Asked(2);
            CHECK.noFraction("no form known", part -> x.like(0, 1, part));
            x.mark(0, mark, 1);
            CHECK.noFraction("a form of the first alone", part -> x.like(0, 1, part));
            CHECK.noFraction("a form of the other alone", part -> x.like(1, 0, part));
            CHECK.noFraction("no form of one and the same", part -> x.like(1, 1, part));
            CHECK.fraction("one and the same", part -> x.like(0, 0, part), 1, 1);
            x.mark(1, (mark + 1) % MARKS, 1);
            CHECK.noFraction("forms of different marks", part -> x.like(0, 1, part));
            x.mark(1, mark, 0);
            checkLike("one mark of both", x, 1, 2);
            x.mark(0, mark, NONE);
            CHECK.noFraction("unknown again", part -> x.like(0, 1, part));
        }
    }

    private static void likeNone() {
        CHECK.sentence("NONE when there are none such, .. or for other parts. (like)");
        for (int animals : new int[] {1, 3, 24}) {
            for (int other : noSuch(animals)) {
                Asked x = new Asked(animals);
                for (int mark = 0; mark < MARKS; mark++) {
                    x.mark(0, mark, 1);
                    x.mark(animals - 1, mark, 1);
                }
                CHECK.noFraction("like(" + other + ", 0)", part -> x.like(other, 0, part));
                CHECK.noFraction("like(0, " + other + ")", part -> x.like(0, other, part));
                CHECK.noFraction("like(" + other + ", itself)", part -> x.like(other, other, part));
                CHECK.fraction("the first and the last", part -> x.like(0, animals - 1, part), 1, 1);
            }
        }
    }

    private static void checkOdds(String call, Asked x, long above, long below) {
        CHECK.fraction(call, part -> x.odds(0, 1, part), above, below);
    }

    private static void checkLike(String call, Asked x, long above, long below) {
        CHECK.fraction(call, part -> x.like(0, 1, part), above, below);
        CHECK.fraction(call + ", the other way", part -> x.like(1, 0, part), above, below);
    }
}
