/**
 * Promises 9 to 12 at their edges: a test for each sentence that draws one, with the last value on
 * each side that has an answer and the first that has none.
 */
public final class AnswersEdgeTest {
    private static final int NONE = DelegationClosure.NONE;
    private static final int OWNER = DelegationClosure.OWNER;
    private static final int LEAST = Edges.LEAST;
    private static final int MOST = Edges.MOST;
    private static final Due due = new Due();

    public static void main(String[] args) {
        promise9NoKeyAndAllKeys();
        promise9NoSubject();
        promise9AtATime();
        promise10KeyAlone();
        promise10NotMeant();
        promise10NoSubject();
        promise10Key();
        promise10Least();
        promise11From1();
        promise11To999();
        promise11MayNot();
        promise11Key();
        promise11Operation();
        promise11NumberAndTime();
        promise12NoKeyAndAllKeys();
        promise12Operation();
        promise12AsMaySays();
        due.end();
    }

    /** Key 0 with name 0 means all keys. */
    private static DelegationClosure withAllKeysMeant() {
        DelegationClosure x = new DelegationClosure();
        for (int key = 0; key < 8; key++) {
            x.name(0, 0, key, LEAST, MOST);
        }
        return x;
    }

    /** "The set of the keys that a subject means at a time (the sum of 2 to the power of them)". */
    private static void promise9NoKeyAndAllKeys() {
        DelegationClosure x = withAllKeysMeant();
        due.is("meant: all keys", x.meant(Due.subject(0, 0), 0), 255);
        due.is("meant: all keys by two names", x.meant(Due.subject(0, 0, 0), 0), 255);
        due.is("meant: no key is 0, not NONE", x.meant(Due.subject(0, 1), 0), 0);
        due.is("meant: no key by the second name", x.meant(Due.subject(0, 0, 1), 0), 0);
        due.is("meant: no key by the first name", x.meant(Due.subject(0, 1, 0), 0), 0);
        for (int key = 0; key < 8; key++) {
            due.is("meant: a key alone", x.meant(key, 0), 1 << key);
        }
        int set = 255;
        for (int key = 0; key < 8; key++) {
            x.revoke(key);
            set -= 1 << key;
            due.is("meant: without keys to " + key, x.meant(Due.subject(0, 0), 0), set);
        }
    }

    /** "NONE if it is no subject". */
    private static void promise9NoSubject() {
        DelegationClosure x = withAllKeysMeant();
        for (int wrong : Edges.NO_SUBJECTS) {
            due.is("meant: no subject " + wrong, x.meant(wrong, 0), NONE);
            due.is("meant: nor at the least time", x.meant(wrong, LEAST), NONE);
        }
        for (int number : Edges.SUBJECTS) {
            due.is("meant: subject " + number, x.meant(number, 0) >= 0, true);
        }
    }

    /** "at a time": one time does not show in the answer for the next. */
    private static void promise9AtATime() {
        DelegationClosure x = new DelegationClosure();
        x.name(0, 0, 1, LEAST, LEAST);
        x.name(0, 0, 2, MOST, MOST);
        x.name(0, 0, 3, 0, 0);
        int subject = Due.subject(0, 0);
        for (int again = 0; again < 2; again++) {
            due.is("meant: at the least time", x.meant(subject, LEAST), Due.setOf(1));
            due.is("meant: next to it", x.meant(subject, LEAST + 1), 0);
            due.is("meant: at the greatest time", x.meant(subject, MOST), Due.setOf(2));
            due.is("meant: next to that", x.meant(subject, MOST - 1), 0);
            due.is("meant: at 0", x.meant(subject, 0), Due.setOf(3));
            due.is("meant: at -1", x.meant(subject, -1), 0);
            due.is("meant: at 1", x.meant(subject, 1), 0);
        }
    }

    /** "0 for a key alone that means itself". */
    private static void promise10KeyAlone() {
        DelegationClosure x = new DelegationClosure();
        for (int subject = 0; subject < 8; subject++) {
            for (int key = 0; key < 8; key++) {
                due.is("cost: " + key + " by " + subject, x.cost(subject, key, 0), subject == key ? 0 : NONE);
            }
        }
        x.name(5, 0, 5, LEAST, MOST);
        due.is("cost: a name for itself makes it no other", x.cost(5, 5, 0), 0);
        due.is("cost: with the name it is 1", x.cost(Due.subject(5, 0), 5, 0), 1);
        due.is("cost: with the name twice it is 2", x.cost(Due.subject(5, 0, 0), 5, 0), 2);
        due.is("cost: at the least time", x.cost(5, 5, LEAST), 0);
        due.is("cost: at the greatest time", x.cost(5, 5, MOST), 0);
    }

    /** "NONE if it does not". */
    private static void promise10NotMeant() {
        DelegationClosure x = new DelegationClosure();
        x.name(0, 0, 7, 0, 9);
        for (int key = 0; key < 8; key++) {
            due.is("cost: of " + key, x.cost(Due.subject(0, 0), key, 5), key == 7 ? 1 : NONE);
            due.is("cost: too early", x.cost(Due.subject(0, 0), key, -1), NONE);
            due.is("cost: too late", x.cost(Due.subject(0, 0), key, 10), NONE);
            due.is("cost: of no name", x.cost(Due.subject(0, 1), key, 5), NONE);
            due.is("cost: of a name and no name", x.cost(Due.subject(0, 0, 0), key, 5), NONE);
        }
    }

    /** "it is no subject". */
    private static void promise10NoSubject() {
        DelegationClosure x = withAllKeysMeant();
        for (int wrong : Edges.NO_SUBJECTS) {
            for (int key = 0; key < 8; key++) {
                due.is("cost: no subject " + wrong, x.cost(wrong, key, 0), NONE);
            }
        }
        DelegationClosure y = new DelegationClosure();
        y.name(7, 3, 7, 0, 9);
        due.is("cost: the greatest subject", y.cost(199, 7, 5), 2);
        due.is("cost: the next number", y.cost(200, 7, 5), NONE);
        due.is("cost: the greatest with one name", y.cost(39, 7, 5), 1);
        due.is("cost: the number after that", y.cost(40, 0, 5), NONE);
    }

    /** "or key is not 0 .. 7". */
    private static void promise10Key() {
        DelegationClosure x = withAllKeysMeant();
        for (int key = 0; key < 8; key++) {
            due.is("cost: key " + key, x.cost(Due.subject(0, 0), key, 0), 1);
        }
        for (int wrong : Edges.outside(0, 7)) {
            due.is("cost: key " + wrong, x.cost(Due.subject(0, 0), wrong, 0), NONE);
            due.is("cost: key " + wrong + " of two names", x.cost(Due.subject(0, 0, 0), wrong, 0), NONE);
            due.is("cost: key " + wrong + " of a key", x.cost(wrong, wrong, 0), NONE);
            due.is("cost: key " + wrong + " of key 0", x.cost(0, wrong, 0), NONE);
        }
    }

    /** "The cost (the least". */
    private static void promise10Least() {
        for (int shortest = 1; shortest <= 6; shortest++) {
            DelegationClosure x = new DelegationClosure();
            for (int i = 1; i < 7; i++) {
                x.name(i, 0, i == 6 ? 7 : Due.subject(i + 1, 0), 0, 9);
            }
            x.name(0, 0, Due.subject(1, 0), 0, 9);
            due.is("least: the long way", x.cost(Due.subject(0, 0), 7, 5), 7);
            int late = x.name(0, 0, shortest == 6 ? 7 : Due.subject(shortest + 1, 0), 0, 9);
            due.is("least: a shorter way", x.cost(Due.subject(0, 0), 7, 5), 7 - shortest);
            x.revoke(late);
            due.is("least: the long way again", x.cost(Due.subject(0, 0), 7, 5), 7);
        }
    }

    /** "(1 or more". */
    private static void promise11From1() {
        for (int key = 0; key < 8; key++) {
            DelegationClosure x = new DelegationClosure();
            due.is("may: nobody may", x.may(key, 0, 0, 5), NONE);
            x.permit(OWNER, key, false, 0, 9);
            due.is("may: by one certificate", x.may(key, 0, 0, 5), 1);
            x.also(0, key);
            x.also(0, key);
            x.quorum(0, 3);
            due.is("may: by one certificate of all three", x.may(key, 0, 0, 5), 1);
        }
    }

    /** "999 for all above)". */
    private static void promise11To999() {
        for (int sum = 997; sum <= 1000; sum++) {
            DelegationClosure x = Costly.object(sum);
            x.permit(OWNER, Costly.SUBJECT, false, LEAST, MOST);
            int want = Math.min(999, sum + 1);
            due.is("may: by a meaning of " + sum, x.may(Costly.MEANT, 0, 0, 0), want);
            x.permit(OWNER, 7, true, LEAST, MOST);
            x.permit(7, Costly.SUBJECT, false, LEAST, MOST);
            due.is("may: by one more no less", x.may(Costly.MEANT, 0, 0, 0), want);
            x.revoke(20);
            want = Math.min(999, sum + 2);
            due.is("may: by two and " + sum, x.may(Costly.MEANT, 0, 0, 0), want);
            due.is("may: it holds", x.holders(0, 0, 0), Due.setOf(Costly.MEANT, 7));
        }
    }

    /** "NONE if the key may not do the operation with the number at the time". */
    private static void promise11MayNot() {
        DelegationClosure x = new DelegationClosure();
        x.permit(OWNER, 1, false, 3, 5);
        x.tag(0, 4, 10, 12);
        due.is("may: it may", x.may(1, 2, 10, 3), 1);
        due.is("may: to the last number and time", x.may(1, 2, 12, 5), 1);
        due.is("may: another key", x.may(0, 2, 10, 3), NONE);
        due.is("may: the next key", x.may(2, 2, 10, 3), NONE);
        due.is("may: the operation before", x.may(1, 1, 10, 3), NONE);
        due.is("may: the operation after", x.may(1, 3, 10, 3), NONE);
        due.is("may: the number before", x.may(1, 2, 9, 3), NONE);
        due.is("may: the number after", x.may(1, 2, 13, 3), NONE);
        due.is("may: the time before", x.may(1, 2, 10, 2), NONE);
        due.is("may: the time after", x.may(1, 2, 10, 6), NONE);
    }

    /** "key is not 0 .. 7". */
    private static void promise11Key() {
        DelegationClosure x = withAllKeysMeant();
        x.permit(OWNER, Due.subject(0, 0), true, LEAST, MOST);
        for (int key = 0; key < 8; key++) {
            due.is("may: key " + key, x.may(key, 0, 0, 0), 2);
        }
        for (int wrong : Edges.outside(0, 7)) {
            due.is("may: key " + wrong, x.may(wrong, 0, 0, 0), NONE);
        }
        due.is("may: OWNER is no key", x.may(OWNER, 0, 0, 0), NONE);
    }

    /** "or operation is not 0 .. 7". */
    private static void promise11Operation() {
        DelegationClosure x = new DelegationClosure();
        x.permit(OWNER, 0, true, LEAST, MOST);
        for (int operation = 0; operation < 8; operation++) {
            due.is("may: operation " + operation, x.may(0, operation, 0, 0), 1);
        }
        for (int wrong : Edges.outside(0, 7)) {
            due.is("may: operation " + wrong, x.may(0, wrong, 0, 0), NONE);
        }
        for (int wrong = 8; wrong <= 70; wrong++) {
            due.is("may: operation " + wrong, x.may(0, wrong, 0, 0), NONE);
            due.is("may: operation " + -wrong, x.may(0, -wrong, 0, 0), NONE);
        }
    }

    /** Numbers and times are all ints: none of them is refused. */
    private static void promise11NumberAndTime() {
        DelegationClosure x = new DelegationClosure();
        x.permit(OWNER, 0, true, LEAST, MOST);
        for (int number : new int[] {LEAST, -1, 0, MOST}) {
            for (int time : new int[] {LEAST, -1, 0, MOST}) {
                due.is("may: number " + number + " at " + time, x.may(0, 0, number, time), 1);
                due.is("holders: number " + number + " at " + time, x.holders(0, number, time), 1);
            }
        }
    }

    /** "The set of the keys that may do the operation with the number at the time". */
    private static void promise12NoKeyAndAllKeys() {
        DelegationClosure x = new DelegationClosure();
        due.is("holders: no key", x.holders(0, 0, 5), 0);
        int set = 0;
        for (int key = 7; key >= 0; key--) {
            x.permit(OWNER, key, false, 0, 9);
            set += 1 << key;
            due.is("holders: keys from " + key, x.holders(7, 0, 5), set);
        }
        due.is("holders: all keys", x.holders(0, 0, 9), 255);
        due.is("holders: too early", x.holders(0, 0, -1), 0);
        due.is("holders: too late", x.holders(0, 0, 10), 0);
    }

    /** "0 if operation is not 0 .. 7". */
    private static void promise12Operation() {
        DelegationClosure x = new DelegationClosure();
        x.permit(OWNER, 0, true, LEAST, MOST);
        for (int operation = 0; operation < 8; operation++) {
            due.is("holders: operation " + operation, x.holders(operation, 0, 0), 1);
        }
        for (int wrong : Edges.outside(0, 7)) {
            due.is("holders: operation " + wrong, x.holders(wrong, 0, 0), 0);
        }
        for (int wrong = 8; wrong <= 70; wrong++) {
            due.is("holders: operation " + wrong, x.holders(wrong, 0, 0), 0);
            due.is("holders: operation " + -wrong, x.holders(-wrong, 0, 0), 0);
        }
    }

    private static void promise12AsMaySays() {
        DelegationClosure x = new DelegationClosure();
        x.permit(OWNER, 0, true, 0, 4);
        x.permit(0, 1, true, 4, 9);
        x.permit(OWNER, 7, false, 5, 5);
        x.tag(1, 1, 0, 0);
        for (int time = -1; time <= 10; time++) {
            for (int number = -1; number <= 1; number++) {
                int set = 0;
                for (int key = 0; key < 8; key++) {
                    set += x.may(key, 0, number, time) == NONE ? 0 : 1 << key;
                }
                due.is("holders: " + number + " at " + time, x.holders(0, number, time), set);
            }
        }
        due.is("holders: where all meet", x.holders(0, 0, 4), Due.setOf(0, 1));
    }

    private AnswersEdgeTest() {
    }
}
