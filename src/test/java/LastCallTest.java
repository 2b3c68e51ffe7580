/** "An object is used for at most 512 calls after it has been made": all 512 are answered. */
public final class LastCallTest {
    private static final int NONE = KinNumbers.NONE;
    private static final Check CHECK = new Check();

    public static void main(String[] args) {
        CHECK.sentence("An object is used for at most 512 calls after it has been made");
        parentsUpToTheLast();
        refusalsUpToTheLast();
        toldAndLivesUpToTheLast();
        marksUpToTheLast();
        answersUpToTheLast();
        CHECK.end();
    }

    private static void end(Asked x) {
        CHECK.due("calls left", x.callsLeft(), 0);
    }

    /** The line of 24 is built and taken down again, so that all numbers are reckoned anew each time. */
    private static void parentsUpToTheLast() {
        Asked x = new Asked(24);
        for (int round = 0; x.callsLeft() > 23 + 8; round++) {
            int child = 1 + round % 23;
            boolean builds = round / 23 % 2 == 0;
            CHECK.due("parents", x.parents(child, builds ? child - 1 : NONE, NONE), true);
        }
        for (int child = 1; child < 24; child++) {
            CHECK.due("parents", x.parents(child, NONE, child - 1), true);
        }
        CHECK.due("inbred", x.inbred(23, 0), 0);
        CHECK.due("kin above", x.kin(0, 23, 0), 1);
        CHECK.due("kin below", x.kin(0, 23, 1), 1L << 24);
        CHECK.due("share below", x.share(23, 0, 1), 1L << 23);
        CHECK.due("order", x.order(23), 23);
        CHECK.due("steps", x.animal(23, 5), 23);
        CHECK.due("forbear", x.isForbear(0, 23), true);
        CHECK.due("chance", x.chance(23, 1), 4);
        end(x);
    }

    private static void refusalsUpToTheLast() {
        Asked x = new Asked(24);
        for (int child = 1; child < 24; child++) {
            x.parents(child, child - 1, NONE);
        }
        while (x.callsLeft() > 26) {
            CHECK.due("a ring", x.parents(0, 1 + x.callsLeft() % 23, NONE), false);
        }
        CHECK.due("a ring of all", x.parents(0, 23, NONE), false);
        for (int k = 0; k < 25; k++) {
            CHECK.due("ring(" + k + ")", x.ring(k), k == 0 ? 0 : 24 - k);
        }
        end(x);
    }

    private static void toldAndLivesUpToTheLast() {
        Asked x = new Asked(2);
        x.parents(1, 0, NONE);
        while (x.callsLeft() > 5) {
            CHECK.due("told", x.told(1, x.callsLeft() % 3, 99999 - x.callsLeft()), true);
            CHECK.due("lives", x.lives(0, x.callsLeft() % 4 < 2), true);
        }
        while (x.callsLeft() > 4) {
            CHECK.due("told", x.told(1, 2, 50), true);
        }
        CHECK.due("told on the child's day", x.told(0, 1, 50), false);
        CHECK.due("told a day before", x.told(0, 1, 49), true);
        CHECK.due("lives", x.lives(0, false), true);
        CHECK.due("day", x.animal(0, 3), 49);
        end(x);
    }

    private static void marksUpToTheLast() {
        Asked x = new Asked(24);
        for (int k = 0; x.callsLeft() > 5; k++) {
            CHECK.due("mark", x.mark(k % 24, k / 24 % 4, 1), true);
        }
        CHECK.due("mark", x.mark(23, 3, 2), true);
        CHECK.due("like above", x.like(23, 22, 0), 7);
        CHECK.due("like below", x.like(23, 22, 1), 8);
        CHECK.due("odds", x.odds(23, 22, 1), 25);
        CHECK.due("left", x.left(23, 1), 23);
        end(x);
    }

    private static void answersUpToTheLast() {
        Asked x = new Asked(4);
        x.parents(2, 0, 1);
        x.parents(3, 2, 1);
        x.lives(3, false);
        while (x.callsLeft() > 1) {
            int part = x.callsLeft() % 2;
            CHECK.due("kin", x.kin(3, 1, part), part == 0 ? 3 : 8);
        }
        CHECK.due("diverse", x.diverse(1), 18);
        end(x);
    }
}
