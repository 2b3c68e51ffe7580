import java.util.Random;

/** Runs of calls by a fixed seed, each answer held against the document's words in PlainKin. */
public final class RandomRunsTest {
    private static final int RUNS = 2500;
    private static final int RING_ROWS = 27;
    private static final int[] ODD = {-3, -2, -1, 24, 25, 99999, 100000, Integer.MIN_VALUE, Integer.MAX_VALUE};

    private final Check check;
    private final Random random;
    private final Asked x;
    private final PlainKin plain;
    /** How seldom an argument is one that the document refuses. */
    private final int seldom;

    private RandomRunsTest(Check check, long seed) {
        this.check = check;
        random = new Random(seed);
        seldom = 3 + random.nextInt(60);
        int animals = random.nextInt(4) == 0 ? random.nextInt(40) - 5 : 2 + random.nextInt(12);
        x = new Asked(animals);
        plain = new PlainKin(animals);
    }

    public static void main(String[] args) {
        Check check = new Check();
        for (int run = 0; run < RUNS; run++) {
            RandomRunsTest test = new RandomRunsTest(check, run);
            while (test.x.callsLeft() >= 1 + RING_ROWS) {
                test.call("run " + run + ", " + test.x.callsLeft() + " calls left: ");
            }
        }
        check.end();
    }

    private int pick(int least, int most) {
        return random.nextInt(seldom) == 0 ? ODD[random.nextInt(ODD.length)] : least + random.nextInt(most - least + 1);
    }

    private int pickAnimal() {
        return pick(0, plain.count - 1);
    }

    private int pickParent() {
        return random.nextInt(5) == 0 ? -1 : pickAnimal();
    }

    private int pickPart() {
        return pick(0, 1);
    }

    private void call(String at) {
        int kind = random.nextInt(22);
        if (kind < 10) {
            change(at, kind);
        } else {
            ask(at, kind);
        }
    }

    private void change(String at, int kind) {
        int a = pickAnimal();
        int b = pickParent();
        int c = pickParent();
        if (kind < 5) {
            check.due(at + "parents(" + a + ", " + b + ", " + c + ")", x.parents(a, b, c), plain.parents(a, b, c));
            askRing(at);
        } else if (kind == 5) {
            int sex = pick(0, 2);
            int day = random.nextInt(3) == 0 ? -1 : pick(0, 20);
            check.due(at + "told(" + a + ", " + sex + ", " + day + ")", x.told(a, sex, day), plain.told(a, sex, day));
        } else if (kind == 6) {
            boolean on = random.nextInt(4) == 0;
            check.due(at + "lives(" + a + ", " + on + ")", x.lives(a, on), plain.lives(a, on));
        } else {
            int mark = pick(0, 3);
            int form = pick(-1, 2);
            check.due(at + "mark(" + a + ", " + mark + ", " + form + ")", x.mark(a, mark, form), plain.mark(a, mark, form));
        }
    }

    /** Now and then every row; often none, as the rows take up the calls. */
    private void askRing(String at) {
        int rows = random.nextInt(8) == 0 ? RING_ROWS : random.nextInt(3);
        for (int k = rows - 2; k >= -1; k--) {
            check.due(at + "ring(" + k + ")", x.ring(k), plain.ring(k));
        }
    }

    private void ask(String at, int kind) {
        int a = pickAnimal();
        int b = pickAnimal();
        int part = pickPart();
        String two = "(" + a + ", " + b + ", " + part + ")";
        switch (kind) {
            case 10 -> check.due(at + "kin" + two, x.kin(a, b, part), plain.kin(a, b, part));
            case 11 -> check.due(at + "inbred(" + a + ")", x.inbred(a, part), plain.inbred(a, part));
            case 12 -> check.due(at + "chance(" + a + ")", x.chance(a, part), plain.chance(a, part));
            case 13 -> check.due(at + "share" + two, x.share(a, b, part), plain.share(a, b, part));
            case 14 -> check.due(at + "isForbear" + two, x.isForbear(a, b), plain.isForbear(a, b));
            case 15 -> check.due(at + "order(" + a + ")", x.order(a), plain.order(a));
            case 16 -> {
                int sex = pick(1, 2);
                check.due(at + "left(" + a + ", " + sex + ")", x.left(a, sex), plain.left(a, sex));
            }
            case 17 -> check.due(at + "odds" + two, x.odds(a, b, part), plain.odds(a, b, part));
            case 18 -> check.due(at + "like" + two, x.like(a, b, part), plain.like(a, b, part));
            case 19 -> check.due(at + "lost(" + a + ")", x.lost(a), plain.lost(a));
            case 20 -> check.due(at + "diverse(" + part + ")", x.diverse(part), plain.diverse(part));
            default -> {
                int what = pick(0, 5);
                check.due(at + "animal(" + a + ", " + what + ")", x.animal(a, what), plain.animal(a, what));
            }
        }
    }
}
