/**
 * A KinNumbers that counts what is asked of it: what it answers after its 512th call is free, so a
 * test that asks for more of one object is wrong itself, and ends.
 */
final class Asked {
    static final int PROMISED_CALLS = 512;

    private final KinNumbers kin;
    private int calls = 0;

    Asked(int animals) {
        kin = new KinNumbers(animals);
    }

    int callsLeft() {
        return PROMISED_CALLS - calls;
    }

    private KinNumbers next() {
        calls++;
        if (calls > PROMISED_CALLS) {
            throw new IllegalStateException("a test asks one object more than it promises to answer");
        }
        return kin;
    }

    boolean parents(int child, int mother, int father) {
        return next().parents(child, mother, father);
    }

    int ring(int k) {
        return next().ring(k);
    }

    boolean told(int animal, int sex, int born) {
        return next().told(animal, sex, born);
    }

    boolean lives(int animal, boolean on) {
        return next().lives(animal, on);
    }

    long kin(int a, int b, int part) {
        return next().kin(a, b, part);
    }

    long inbred(int animal, int part) {
        return next().inbred(animal, part);
    }

    long chance(int animal, int part) {
        return next().chance(animal, part);
    }

    long share(int animal, int founder, int part) {
        return next().share(animal, founder, part);
    }

    boolean isForbear(int a, int of) {
        return next().isForbear(a, of);
    }

    int order(int k) {
        return next().order(k);
    }

    boolean mark(int animal, int mark, int form) {
        return next().mark(animal, mark, form);
    }

    int left(int child, int sex) {
        return next().left(child, sex);
    }

    long odds(int child, int parent, int part) {
        return next().odds(child, parent, part);
    }

    long like(int a, int b, int part) {
        return next().like(a, b, part);
    }

    int lost(int k) {
        return next().lost(k);
    }

    long diverse(int part) {
        return next().diverse(part);
    }

    int animal(int animal, int what) {
        return next().animal(animal, what);
    }
}
