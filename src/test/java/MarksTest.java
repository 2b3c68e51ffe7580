/** Promises 12 to 15: marks, parents that are left out, odds, and likeness. */
public final class MarksTest {
    private static final int NONE = KinNumbers.NONE;
    private static final int[] NO_SUCH = {-1, -2, 5, 24, Integer.MIN_VALUE, Integer.MAX_VALUE};
    private static final Check CHECK = new Check();

    public static void main(String[] args) {
        promise12Mark();
        promise13Left();
        promise13NoPedigreeAsked();
        promise14Odds();
        promise14OddsOfManyMarks();
        promise15Like();
        wrongInputs();
        CHECK.end();
    }

    private static void promise12Mark() {
        Asked x = new Asked(5);
        for (int mark = 0; mark < 4; mark++) {
            for (int form = NONE; form <= 2; form++) {
                CHECK.due("mark(4, " + mark + ", " + form + ")", x.mark(4, mark, form), true);
            }
        }
        for (int animal : NO_SUCH) {
            CHECK.due("mark of animal " + animal, x.mark(animal, 0, 1), false);
            CHECK.due("no mark of animal " + animal, x.mark(animal, 0, NONE), false);
        }
        for (int mark : new int[] {-1, 4, 5, Integer.MIN_VALUE, Integer.MAX_VALUE}) {
            CHECK.due("mark " + mark, x.mark(0, mark, 1), false);
        }
        x.mark(0, 0, 0);
        x.mark(1, 0, 1);
        for (int form : new int[] {-2, 3, Integer.MIN_VALUE, Integer.MAX_VALUE}) {
            CHECK.due("form " + form, x.mark(0, 0, form), false);
        }
        CHECK.fraction("what is refused changes nothing", part -> x.like(0, 1, part), 1, 2);
        x.mark(0, 0, NONE);
        CHECK.noFraction("unknown again", part -> x.like(0, 1, part));
    }

    private static void promise13Left() {
        Asked x = new Asked(5);
        CHECK.due("left without forms", x.left(0, 1), 4);
        x.mark(0, 3, 0);
        x.mark(1, 3, 2);
        x.mark(2, 3, 1);
        x.mark(3, 3, 0);
        CHECK.due("left for 0, mothers", x.left(0, 1), 3);
        CHECK.due("left for 0, fathers", x.left(0, 2), 3);
        CHECK.due("left for 1, mothers", x.left(1, 1), 2);
        CHECK.due("left for 2, mothers", x.left(2, 1), 4);
        x.told(2, 2, NONE);
        x.told(3, 1, NONE);
        x.told(0, 1, NONE);
        CHECK.due("left for 0, no male mothers", x.left(0, 1), 2);
        CHECK.due("left for 0, no female fathers", x.left(0, 2), 2);
        CHECK.due("left for 4, mothers", x.left(4, 1), 3);
        CHECK.due("left for 4, fathers", x.left(4, 2), 2);
        x.mark(4, 0, 2);
        x.mark(0, 0, 0);
        CHECK.due("left for 0, by another mark", x.left(0, 1), 1);
        x.mark(0, 0, 1);
        CHECK.due("left for 0, form 1 leaves none out", x.left(0, 1), 2);
        Asked one = new Asked(1);
        CHECK.due("left for one alone", one.left(0, 1), 0);
    }

    private static void promise13NoPedigreeAsked() {
        Asked x = new Asked(4);
        x.parents(1, 0, NONE);
        x.parents(2, 1, NONE);
        x.told(0, 0, 5);
        x.told(3, 0, 9);
        x.lives(3, false);
        CHECK.due("left counts heirs, the dead and those born later", x.left(0, 1), 3);
        CHECK.due("left counts them as fathers", x.left(0, 2), 3);
    }

    /** Seven letters A and three letters B of mark 0; forms 0, 1, 2, 0 of animals 0 to 3, and 0 of 4. */
    private static void promise14Odds() {
        Asked x = new Asked(5);
        checkOdds(x, 0, 1, 1, 1);
        int[] forms = {0, 1, 2, 0, 0};
        for (int animal = 0; animal < 5; animal++) {
            x.mark(animal, 0, forms[animal]);
        }
        checkOdds(x, 0, 3, 10, 7);
        checkOdds(x, 0, 1, 5, 7);
        checkOdds(x, 0, 2, 0, 1);
        checkOdds(x, 1, 0, 5, 7);
        checkOdds(x, 1, 2, 5, 3);
        checkOdds(x, 2, 0, 0, 1);
        checkOdds(x, 2, 1, 5, 3);
        x.mark(3, 0, 1);
        checkOdds(x, 1, 3, 25, 24);
        x.mark(3, 0, 2);
        checkOdds(x, 2, 3, 2, 1);
        x.lives(4, false);
        checkOdds(x, 2, 3, 2, 1);
        x.mark(4, 0, NONE);
        checkOdds(x, 2, 3, 8, 5);
        checkOdds(x, 4, 3, 1, 1);
        checkOdds(x, 3, 4, 1, 1);
        Asked same = new Asked(2);
        same.mark(0, 1, 2);
        same.mark(1, 1, 2);
        checkOdds(same, 0, 1, 1, 1);
        same.mark(0, 1, 0);
        same.mark(1, 1, 0);
        checkOdds(same, 0, 1, 1, 1);
    }

    private static void promise14OddsOfManyMarks() {
        Asked x = new Asked(24);
        for (int mark = 0; mark < 4; mark++) {
            for (int animal = 0; animal < 24; animal++) {
                x.mark(animal, mark, 0);
            }
            x.mark(0, mark, 2);
            x.mark(1, mark, 2);
        }
        checkOdds(x, 0, 1, 12L * 12 * 12 * 12, 1);
        checkOdds(x, 0, 2, 0, 1);
        checkOdds(x, 2, 3, 12L * 12 * 12 * 12, 11L * 11 * 11 * 11);
        x.mark(2, 3, NONE);
        checkOdds(x, 2, 3, 12L * 12 * 12, 11L * 11 * 11);
        for (int mark = 0; mark < 4; mark++) {
            x.mark(0, mark, 1);
            x.mark(1, mark, 0);
            x.mark(2, mark, 0);
        }
        checkOdds(x, 0, 1, 24L * 24 * 24 * 24, 47L * 47 * 47 * 47);
    }

    private static void promise15Like() {
        Asked x = new Asked(5);
        CHECK.noFraction("like without forms", part -> x.like(0, 1, part));
        CHECK.noFraction("like of one without forms", part -> x.like(0, 0, part));
        x.mark(0, 0, 0);
        x.mark(1, 1, 2);
        CHECK.noFraction("like without a mark of both", part -> x.like(0, 1, part));
        CHECK.fraction("like of one and the same", part -> x.like(0, 0, part), 1, 1);
        x.mark(1, 0, 2);
        checkLike(x, 0, 1, 0, 1);
        x.mark(0, 1, 2);
        checkLike(x, 0, 1, 1, 2);
        x.mark(0, 2, 1);
        x.mark(1, 2, 0);
        checkLike(x, 0, 1, 1, 2);
        x.mark(0, 3, 1);
        x.mark(1, 3, 1);
        checkLike(x, 0, 1, 5, 8);
        x.mark(0, 0, 2);
        checkLike(x, 0, 1, 7, 8);
    }

    private static void wrongInputs() {
        Asked x = new Asked(5);
        for (int animal = 0; animal < 5; animal++) {
            x.mark(animal, 0, 1);
            int one = animal;
            CHECK.noFraction("odds of one for itself", part -> x.odds(one, one, part));
        }
        for (int other : NO_SUCH) {
            CHECK.noFraction("odds(" + other + ", 0)", part -> x.odds(other, 0, part));
            CHECK.noFraction("odds(0, " + other + ")", part -> x.odds(0, other, part));
            CHECK.noFraction("like(" + other + ", 0)", part -> x.like(other, 0, part));
            CHECK.noFraction("like(0, " + other + ")", part -> x.like(0, other, part));
            CHECK.due("left(" + other + ", 1)", x.left(other, 1), NONE);
            CHECK.due("left(" + other + ", 2)", x.left(other, 2), NONE);
        }
        for (int sex : new int[] {-1, 0, 3, Integer.MIN_VALUE, Integer.MAX_VALUE}) {
            CHECK.due("left(0, " + sex + ")", x.left(0, sex), NONE);
        }
    }

    private static void checkOdds(Asked x, int child, int parent, long above, long below) {
        CHECK.fraction("odds(" + child + ", " + parent + ")", part -> x.odds(child, parent, part), above, below);
    }

    private static void checkLike(Asked x, int a, int b, long above, long below) {
        CHECK.fraction("like(" + a + ", " + b + ")", part -> x.like(a, b, part), above, below);
        CHECK.fraction("like(" + b + ", " + a + ")", part -> x.like(b, a, part), above, below);
    }
}
