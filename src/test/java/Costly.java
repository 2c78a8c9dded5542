/**
 * Objects in which KEY, NAME, NAME means MEANT at a cost of just 997, 998, 999 or, were it not for
 * the limit, 1000. They leave four certificates to make and the keys 5, 6 and 7 without any.
 */
final class Costly {
    static final int KEY = 4;
    static final int NAME = 3;
    static final int MEANT = 3;
    static final int SUBJECT = Due.subject(KEY, NAME, NAME);

    private Costly() {
    }

    static DelegationClosure object(int sum) {
        DelegationClosure x = new DelegationClosure();
        // The names 0, 1 and 2 of the keys 0, 1 and 2 mean the key itself; 3 means the next key.
        always(x, 0, 0, 0);                     // 1
        always(x, 0, 1, Due.subject(0, 0));     // 2
        always(x, 0, 2, Due.subject(0, 1));     // 3
        always(x, 0, 3, 1);
        always(x, 1, 0, Due.subject(0, 2, 3));  // 3 + 1 + 1 = 5
        always(x, 1, 1, Due.subject(1, 0));     // 6
        always(x, 1, 2, Due.subject(1, 0, 1));  // 12
        always(x, 1, 3, 2);
        always(x, 2, 0, Due.subject(1, 2, 3));  // 14
        always(x, 2, 1, Due.subject(2, 0, 0));  // 29
        always(x, 2, 2, Due.subject(2, 1, 1));  // 59
        always(x, 2, 3, 3);
        always(x, 3, 0, Due.subject(2, 2, 3));  // 61
        always(x, 3, 1, Due.subject(3, 0, 0));  // 123
        always(x, 3, 2, Due.subject(3, 1, 1));  // 247
        always(x, 3, 3, Due.subject(3, 2, 2));  // 495
        always(x, 4, 0, firstStep(sum));        // sum - 995, means 1
        always(x, 4, 1, Due.subject(4, 0, 3));  // sum - 993, means 2
        always(x, 4, 2, Due.subject(4, 1, 3));  // sum - 991, means 3
        always(x, 4, 3, Due.subject(4, 2, 3));  // sum - 495, means 3
        return x;
    }

    /** A subject that means key 1 at a cost of sum - 996. */
    private static int firstStep(int sum) {
        switch (sum) {
            case 997:
                return Due.subject(0, 3);
            case 998:
                return Due.subject(0, 0, 3);
            case 999:
                return Due.subject(0, 1, 3);
            case 1000:
                return Due.subject(0, 2, 3);
            default:
                throw new IllegalArgumentException("no object for " + sum);
        }
    }

    static void always(DelegationClosure x, int issuer, int name, int subject) {
        x.name(issuer, name, subject, Edges.LEAST, Edges.MOST);
    }
}
