import java.util.ArrayList;
import java.util.List;
import java.util.function.Predicate;

/** "What is refused changes nothing.", for every call that changes something and odd arguments. */
public final class RefusalsTest {
    private static final int ANIMALS = 6;
    private static final int NONE = KinNumbers.NONE;
    private static final int LEAST = Integer.MIN_VALUE;
    private static final int MOST = Integer.MAX_VALUE;
    private static final int[] NUMBERS = {LEAST, -2, -1, 0, 1, 2, 3, 4, 5, 6, 24, MOST};
    private static final int[] SEXES = {LEAST, -2, -1, 0, 1, 2, 3, MOST};
    private static final int[] DAYS = {LEAST, -2, -1, 0, 9, 10, 11, 19, 20, 21, 99999, 100000, MOST};
    private static final int[] MARKS = {LEAST, -1, 0, 1, 2, 3, 4, MOST};
    private static final int[] FORMS = {LEAST, -2, -1, 0, 1, 2, 3, MOST};
    private static final Check CHECK = new Check();

    private static int refusals = 0;

    public static void main(String[] args) {
        CHECK.sentence("What is refused changes nothing.");
        for (int animal : NUMBERS) {
            parentsOf(animal);
            toldOf(animal);
            marksOf(animal);
            held("lives(" + animal + ", true)", true, x -> x.lives(animal, true));
            held("lives(" + animal + ", false)", true, x -> x.lives(animal, false));
        }
        CHECK.due("many are refused", refusals > 2000, true);
        CHECK.end();
    }

    private static void parentsOf(int child) {
        for (int mother : NUMBERS) {
            for (int father : NUMBERS) {
                String call = "parents(" + child + ", " + mother + ", " + father + ")";
                held(call, false, x -> x.parents(child, mother, father));
            }
        }
    }

    private static void toldOf(int animal) {
        for (int sex : SEXES) {
            for (int day : DAYS) {
                held("told(" + animal + ", " + sex + ", " + day + ")", true, x -> x.told(animal, sex, day));
            }
        }
    }

    private static void marksOf(int animal) {
        for (int mark : MARKS) {
            for (int form : FORMS) {
                held("mark(" + animal + ", " + mark + ", " + form + ")", true, x -> x.mark(animal, mark, form));
            }
        }
    }

    /** The refused call is made on one of two objects; they have to answer alike after it. */
    private static void held(String call, boolean ringStays, Predicate<Asked> change) {
        Asked changed = family();
        if (change.test(changed)) {
            return;
        }
        refusals++;
        List<Long> want = answers(family(), ringStays);
        List<Long> got = answers(changed, ringStays);
        for (int k = 0; k < want.size(); k++) {
            CHECK.due("answer " + k + " after " + call, got.get(k), want.get(k));
        }
    }

    /** With a ring that was refused, known and unknown sexes, days and forms, and one that is dead. */
    private static Asked family() {
        Asked x = new Asked(ANIMALS);
        x.parents(2, 0, 1);
        x.parents(3, 2, NONE);
        x.parents(4, 2, 1);
        x.told(0, 1, NONE);
        x.told(1, 2, 10);
        x.told(2, 0, 20);
        x.lives(1, false);
        x.lives(5, false);
        for (int animal = 0; animal < ANIMALS; animal++) {
            x.mark(animal, 0, animal % 3);
            x.mark(animal, 3, animal % 4 - 1);
        }
        x.parents(0, 3, NONE);
        return x;
    }

    private static List<Long> answers(Asked x, boolean withRing) {
        List<Long> all = new ArrayList<>();
        for (int k = 0; withRing && k < 6; k++) {
            all.add((long) x.ring(k));
        }
        for (int part = 0; part < 2; part++) {
            all.add(x.diverse(part));
        }
        for (int a = 0; a < ANIMALS; a++) {
            answersOf(x, a, all);
            for (int b = 0; b < ANIMALS; b++) {
                all.add(x.isForbear(a, b) ? 1L : 0L);
                for (int part = 0; part < 2; part++) {
                    all.add(x.kin(a, b, part));
                    all.add(x.share(a, b, part));
                    all.add(x.odds(a, b, part));
                    all.add(x.like(a, b, part));
                }
            }
        }
        return all;
    }

    private static void answersOf(Asked x, int animal, List<Long> all) {
        all.add((long) x.order(animal));
        all.add((long) x.lost(animal));
        all.add((long) x.left(animal, 1));
        all.add((long) x.left(animal, 2));
        for (int what = 0; what < 6; what++) {
            all.add((long) x.animal(animal, what));
        }
        for (int part = 0; part < 2; part++) {
            all.add(x.inbred(animal, part));
            all.add(x.chance(animal, part));
        }
    }
}
