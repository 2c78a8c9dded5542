/** Promises 9 and 10: what a subject means at a time, and at which cost. */
public final class MeaningTest {
    private static final int NONE = DelegationClosure.NONE;
    private static final int LEAST = Integer.MIN_VALUE;
    private static final int MOST = Integer.MAX_VALUE;
    private static final Due due = new Due();

    public static void main(String[] args) {
        promise9Keys();
        promise9Names();
        promise9TwoNames();
        promise9Circles();
        promise9Refusals();
        promise10LeastCost();
        promise10Times();
        promise10LongWay();
        promise10AtMost999();
        promise10Refusals();
        due.end();
    }

    private static void promise9Keys() {
        DelegationClosure x = new DelegationClosure();
        for (int key = 0; key < 8; key++) {
            due.is("meant: key " + key, x.meant(key, 0), 1 << key);
        }
        due.is("meant: at the least time", x.meant(7, LEAST), 128);
        due.is("meant: at the greatest time", x.meant(7, MOST), 128);
    }

    private static void promise9Names() {
        DelegationClosure x = new DelegationClosure();
        x.name(0, 0, 1, 0, 9);
        x.name(0, 0, 2, 5, 9);
        x.name(0, 1, 3, 0, 9);
        x.name(1, 0, 4, 0, 9);
        due.is("meant: several", x.meant(Due.subject(0, 0), 5), Due.setOf(1, 2));
        due.is("meant: those that are valid", x.meant(Due.subject(0, 0), 4), Due.setOf(1));
        due.is("meant: another name", x.meant(Due.subject(0, 1), 5), Due.setOf(3));
        due.is("meant: another key", x.meant(Due.subject(1, 0), 5), Due.setOf(4));
        due.is("meant: no certificate", x.meant(Due.subject(2, 0), 5), 0);
        due.is("meant: a key with a name does not mean the key", x.meant(Due.subject(1, 1), 5), 0);
    }

    private static void promise9TwoNames() {
        DelegationClosure x = new DelegationClosure();
        x.name(0, 0, 1, 0, 9);
        x.name(0, 0, 2, 0, 9);
        x.name(1, 3, 4, 0, 9);
        x.name(1, 3, 5, 0, 9);
        x.name(2, 3, 5, 0, 9);
        x.name(2, 2, 6, 0, 9);
        x.name(7, 0, Due.subject(0, 0, 3), 0, 9);
        due.is("meant: by all between", x.meant(Due.subject(0, 0, 3), 5), Due.setOf(4, 5));
        due.is("meant: by one between", x.meant(Due.subject(0, 0, 2), 5), Due.setOf(6));
        due.is("meant: by none between", x.meant(Due.subject(0, 0, 1), 5), 0);
        due.is("meant: order of the names", x.meant(Due.subject(0, 3, 0), 5), 0);
        due.is("meant: a certificate of two names", x.meant(Due.subject(7, 0), 5), Due.setOf(4, 5));
    }

    private static void promise9Circles() {
        DelegationClosure x = new DelegationClosure();
        x.name(0, 0, Due.subject(1, 0), 0, 9);
        x.name(1, 0, Due.subject(0, 0), 0, 9);
        x.name(2, 0, Due.subject(2, 0, 0), 0, 9);
        due.is("circle: nothing is meant", x.meant(Due.subject(0, 0), 5), 0);
        due.is("circle: by itself", x.meant(Due.subject(2, 0), 5), 0);
        x.name(1, 0, 6, 0, 9);
        due.is("circle: a way in", x.meant(Due.subject(0, 0), 5), Due.setOf(6));
        due.is("circle: cost", x.cost(Due.subject(0, 0), 6, 5), 2);
        x.name(2, 0, 3, 0, 9);
        x.name(3, 0, 4, 0, 9);
        x.name(4, 0, 5, 0, 9);
        due.is("circle: again and again", x.meant(Due.subject(2, 0), 5), Due.setOf(3, 4, 5));
        due.is("circle: cost of once", x.cost(Due.subject(2, 0), 3, 5), 1);
        due.is("circle: cost of twice", x.cost(Due.subject(2, 0), 4, 5), 3);
        due.is("circle: cost of three times", x.cost(Due.subject(2, 0), 5, 5), 5);
    }

    private static void promise9Refusals() {
        DelegationClosure x = new DelegationClosure();
        for (int number = -200; number <= 300; number++) {
            if (!Due.isSubject(number)) {
                due.is("meant: " + number, x.meant(number, 0), NONE);
            } else if (number >= 8) {
                due.is("meant: " + number, x.meant(number, 0), 0);
            }
        }
        due.is("meant: least", x.meant(LEAST, 0), NONE);
        due.is("meant: greatest", x.meant(MOST, 0), NONE);
    }

    private static void promise10LeastCost() {
        DelegationClosure x = new DelegationClosure();
        x.name(0, 0, Due.subject(1, 0), 0, 9);
        x.name(1, 0, Due.subject(2, 0), 0, 9);
        x.name(2, 0, 3, 0, 9);
        due.is("cost: key of itself", x.cost(3, 3, 5), 0);
        due.is("cost: one", x.cost(Due.subject(2, 0), 3, 5), 1);
        due.is("cost: three", x.cost(Due.subject(0, 0), 3, 5), 3);
        x.name(0, 0, Due.subject(2, 0), 0, 9);
        due.is("cost: a shorter way", x.cost(Due.subject(0, 0), 3, 5), 2);
        x.name(0, 0, 3, 0, 9);
        due.is("cost: the shortest", x.cost(Due.subject(0, 0), 3, 5), 1);
        x.name(3, 1, 7, 0, 9);
        due.is("cost: the sum of both", x.cost(Due.subject(1, 0, 1), 7, 5), 3);
        x.name(4, 1, 7, 0, 9);
        x.name(1, 0, 4, 0, 9);
        due.is("cost: the least sum", x.cost(Due.subject(1, 0, 1), 7, 5), 2);
    }

    private static void promise10Times() {
        DelegationClosure x = new DelegationClosure();
        x.name(0, 0, Due.subject(1, 1), 0, 9);
        x.name(1, 1, 2, 5, 20);
        x.name(0, 0, Due.subject(3, 3), 0, 20);
        x.name(3, 3, Due.subject(1, 1), 7, 20);
        due.is("cost: not yet", x.cost(Due.subject(0, 0), 2, 4), NONE);
        due.is("cost: both are valid", x.cost(Due.subject(0, 0), 2, 5), 2);
        due.is("cost: the last time", x.cost(Due.subject(0, 0), 2, 9), 2);
        due.is("cost: by another way later", x.cost(Due.subject(0, 0), 2, 10), 3);
        due.is("cost: and then no more", x.cost(Due.subject(0, 0), 2, 21), NONE);
    }

    /** A way through every name of a row of keys, made backwards and forwards. */
    private static void promise10LongWay() {
        DelegationClosure forwards = new DelegationClosure();
        DelegationClosure backwards = new DelegationClosure();
        for (int i = 0; i < 24; i++) {
            nameOnWay(forwards, i);
            nameOnWay(backwards, 23 - i);
        }
        due.is("cost: 24 certificates, forwards", forwards.cost(Due.subject(0, 0), 7, 5), 24);
        due.is("cost: 24 certificates, backwards", backwards.cost(Due.subject(0, 0), 7, 5), 24);
        due.is("cost: the last", backwards.cost(Due.subject(5, 3), 7, 5), 1);
    }

    private static void nameOnWay(DelegationClosure x, int i) {
        int next = i + 1;
        x.name(i / 4, i % 4, next == 24 ? 7 : Due.subject(next / 4, next % 4), 0, 9);
    }

    /** Each key doubles a cost by its names 0, 1 and 2; its name 3 leads to the next key. */
    private static void promise10AtMost999() {
        DelegationClosure x = new DelegationClosure();
        for (int key = 0; key < 4; key++) {
            x.name(key, 0, key == 0 ? 0 : Due.subject(key - 1, 2, 3), 0, 9);
            x.name(key, 1, Due.subject(key, 0, 0), 0, 9);
            x.name(key, 2, Due.subject(key, 1, 1), 0, 9);
            x.name(key, 3, key + 1, 0, 9);
        }
        due.is("999: 7", x.cost(Due.subject(0, 2), 0, 5), 7);
        due.is("999: 9", x.cost(Due.subject(1, 0), 1, 5), 9);
        due.is("999: 679", x.cost(Due.subject(3, 2), 3, 5), 679);
        due.is("999: 848", x.cost(Due.subject(3, 2, 0), 3, 5), 848);
        due.is("999: a sum of 1018", x.cost(Due.subject(3, 2, 1), 3, 5), 999);
        due.is("999: a sum of 1358", x.cost(Due.subject(3, 2, 2), 3, 5), 999);
        x.name(7, 0, Due.subject(3, 2, 2), 0, 9);
        x.name(7, 1, Due.subject(7, 0, 2), 0, 9);
        due.is("999: 1 more", x.cost(Due.subject(7, 0), 3, 5), 999);
        due.is("999: a sum with it", x.cost(Due.subject(7, 1), 3, 5), 999);
        due.is("999: it is meant", x.meant(Due.subject(7, 1), 5), Due.setOf(3));
        due.is("999: what is not meant has none", x.cost(Due.subject(7, 1), 4, 5), NONE);
        x.name(7, 1, 3, 0, 9);
        due.is("999: less is less", x.cost(Due.subject(7, 1), 3, 5), 1);
    }

    private static void promise10Refusals() {
        DelegationClosure x = new DelegationClosure();
        x.name(0, 0, 1, 0, 9);
        due.is("cost: not meant", x.cost(Due.subject(0, 0), 2, 5), NONE);
        due.is("cost: another key", x.cost(5, 4, 5), NONE);
        for (int wrong : new int[] {-1, 8, 9, LEAST, MOST}) {
            due.is("cost: key " + wrong, x.cost(Due.subject(0, 0), wrong, 5), NONE);
            due.is("cost: key alone " + wrong, x.cost(0, wrong, 5), NONE);
        }
        for (int wrong : new int[] {-1, -8, 40, 80, 120, 160, 200, 208, LEAST, MOST}) {
            for (int key = 0; key < 8; key++) {
                due.is("cost: subject " + wrong, x.cost(wrong, key, 5), NONE);
            }
        }
    }

    private MeaningTest() {
    }
}
